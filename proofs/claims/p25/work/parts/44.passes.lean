set_option maxHeartbeats 4000000 in
set_option maxRecDepth 100000 in
theorem c_L_passes (l : Launch) (hlst : l.stackTraces = false) (G : zGt) (L : List Nat) (F : Nat → va_E) (M : Nat → Prop) (a0 n now sl : Nat) (fd : Nat → FdT) (hcl : zCl G M L F a0 n now sl fd) (h : Nat) (hh1 : 1 ≤ h) (hh2 : h ≤ 100) (hn9 : now ≤ 59900) (hz : fZ n fd) : zM l yL_passes wsL_passes 13 218 1 6 G L F [.ref a0, .int (nI h)] (fun rv L1 F1 => rv = some (.int (nI 1)) ∧ L1 = L ∧ ∃ g : Nat → FdT, zCl G M L F1 a0 n (now + h) sl g ∧ fN n fd g) := by
  obtain ⟨a1, a2, b4, b5, b6, b7, ad, hco⟩ := hcl
  have hL0 := hco.1.1
  have hF0 := hco.2.1
  obtain ⟨hn, hnow, hsl⟩ := hco.2.2.2.2.2.2.2.1
  have hok : ∀ j, j < n → fOk now (fd j) := fun j hj => (hco.2.2.2.2.2.1 j hj).2.2.1
  have tk1 := tk_12 hn hok
  refine z_of (cc := cL_passes) (nL := 8) (ret := (some .boolean)) (own := RL) hlst (by decide +kernel) rfl rfl (Nat.le_of_ble_eq_true rfl) ?_
  intro p e s m below meth c A hnm C
  refine z_lvs (lv' := [(0, .ref a0), (1, .int (nI h))]) rfl ?_
  refine z_aload_n C dL_passes_0 rfl 0 rfl ?_
  refine z_callS (As := [.ref a0]) (st := []) (mc := 0) (ms := 0) C (c_L_out l hlst G L F M a0 n now sl fd hco.cl) (va_cwS 1 C.1.2.2.2.2 gL_passes_L_out rfl rfl rfl (by decide +kernel) ⟨Nat.le_of_ble_eq_true rfl, Nat.le_of_ble_eq_true rfl⟩) rfl (Nat.le_of_ble_eq_true rfl) ⟨Nat.le_of_ble_eq_true rfl, Nat.le_of_ble_eq_true rfl⟩ dL_passes_1 (z_p ?_)
  refine z_stk (st' := [.int (nI (oW fd n))]) rfl ?_
  have ow_fd := oW_lt (fd := fd) hn
  refine z_istore_n (lv' := [(2, .int (nI (oW fd n))), (0, .ref a0), (1, .int (nI h))]) C dL_passes_4 rfl (by decide) rfl ?_
  refine z_iconst C (nI 0) dL_passes_5 (by decide) ?_
  refine z_istore_n (lv' := [(3, .int (nI 0)), (2, .int (nI (oW fd n))), (0, .ref a0), (1, .int (nI h))]) C dL_passes_6 rfl (by decide) rfl ?_
  refine z_aload_n C dL_passes_7 rfl 2 rfl ?_
  refine z_callV (As := []) (st := []) (mc := 0) (ms := 0) C hL0 hF0 rfl (c_X2_load l hlst G L F M a0 a1 a2 b4 b5 b6 b7 ad n now sl fd hco) (cwV 0 C.1.2.2.2.2 gL_passes_X2_load rfl rfl rfl (by decide +kernel) ⟨Nat.le_of_ble_eq_true rfl, Nat.le_of_ble_eq_true rfl⟩) rfl (Nat.le_of_ble_eq_true rfl) ⟨Nat.le_of_ble_eq_true rfl, Nat.le_of_ble_eq_true rfl⟩ dL_passes_8 (z_p ?_)
  refine z_stk (st' := [.int (nI (smV (fun j => fTk (fd j)) n))]) rfl ?_
  refine z_istore (lv' := [(4, .int (nI (smV (fun j => fTk (fd j)) n))), (3, .int (nI 0)), (2, .int (nI (oW fd n))), (0, .ref a0), (1, .int (nI h))]) C dL_passes_11 (by decide) rfl ?_
  refine z_iconst C (nI 0) dL_passes_13 (by decide) ?_
  refine z_istore (lv' := [(5, .int (nI 0)), (4, .int (nI (smV (fun j => fTk (fd j)) n))), (3, .int (nI 0)), (2, .int (nI (oW fd n))), (0, .ref a0), (1, .int (nI h))]) C dL_passes_14 (by decide) rfl ?_
  refine z_iconst C (nI 0) dL_passes_16 (by decide) ?_
  refine z_istore (lv' := [(6, .int (nI 0)), (5, .int (nI 0)), (4, .int (nI (smV (fun j => fTk (fd j)) n))), (3, .int (nI 0)), (2, .int (nI (oW fd n))), (0, .ref a0), (1, .int (nI h))]) C dL_passes_17 (by decide) rfl ?_
  refine z_lvs (lv' := [(6, .int (nI 0)), (5, .int (nI 0)), (4, .int (nI (smV (fun j => fTk (fd j)) n))), (3, .int (nI (smV (fun j => hpV h (fd j)) 0))), (2, .int (nI (oW fd n))), (0, .ref a0), (1, .int (nI h))]) rfl ?_
  refine z_sub (lv' := [(0, .ref a0), (1, .int (nI h)), (2, .int (nI (oW fd n))), (3, .int (nI (smV (fun j => hpV h (fd j)) 0))), (4, .int (nI (smV (fun j => fTk (fd j)) n))), (5, .int (nI 0)), (6, .int (nI 0))]) [5, 6, 4, 3, 2, 1, 0] rfl ?_
  have lp19 : ∀ (N9 : Nat) (k : Nat) (hk : k ≤ n) (h9 : n - k < N9), zW p l e { frames := 13, cells := 1, slots := 6, locals := 218 } s m [.ref a0, .int (nI h)].toArray below meth c 8 G A (MQ below (zQ G (fun rv L1 F1 => rv = some (.int (nI 1)) ∧ L1 = L ∧ ∃ g : Nat → FdT, zCl G M L F1 a0 n (now + h) sl g ∧ fN n fd g) A) [.ref a0, .int (nI h)].toArray s 1 6 A) 0 0 L F 19 [(0, .ref a0), (1, .int (nI h)), (2, .int (nI (oW fd n))), (3, .int (nI (smV (fun j => hpV h (fd j)) k))), (4, .int (nI (smV (fun j => fTk (fd j)) n))), (5, .int (nI 0)), (6, .int (nI k))] [] := by
    intro N9
    induction N9 with
    | zero => intro k hk h9; exact absurd h9 (Nat.not_lt_zero _)
    | succ N9 ih19 =>
      intro k hk hN19
      refine z_iload C dL_passes_19 6 rfl ?_
      refine z_aload_n C dL_passes_21 rfl 0 rfl ?_
      refine z_callV (As := []) (st := [.int (nI k)]) (mc := 0) (ms := 0) C hL0 hF0 rfl (c_X2_feeders l hlst G L F M a0 a1 a2 b4 b5 b6 b7 ad n now sl fd hco) (cwV 0 C.1.2.2.2.2 gL_passes_X2_feeders rfl rfl rfl (by decide +kernel) ⟨Nat.le_of_ble_eq_true rfl, Nat.le_of_ble_eq_true rfl⟩) rfl (Nat.le_of_ble_eq_true rfl) ⟨Nat.le_of_ble_eq_true rfl, Nat.le_of_ble_eq_true rfl⟩ dL_passes_22 (z_p ?_)
      refine z_stk (st' := [.int (nI n), .int (nI k)]) rfl ?_
      refine z_icmp_ge C 59 (((n : Nat) : Int) ≤ ((k : Nat) : Int)) (zi_le (zi_N (n := n) (by omega)) (zi_N (n := k) (by omega))) dL_passes_25 (by decide) (fun c1_ => ?_) (fun c1_ => ?_)
      · -- 25 taken
        obtain rfl : n = k := by omega
        refine z_aload_n C dL_passes_59 rfl 0 rfl ?_
        refine z_callV (As := []) (st := []) (mc := 0) (ms := 0) C hL0 hF0 rfl (c_X2_hour l hlst G L F M a0 a1 a2 b4 b5 b6 b7 ad n now sl fd hco) (cwV 0 C.1.2.2.2.2 gL_passes_X2_hour rfl rfl rfl (by decide +kernel) ⟨Nat.le_of_ble_eq_true rfl, Nat.le_of_ble_eq_true rfl⟩) rfl (Nat.le_of_ble_eq_true rfl) ⟨Nat.le_of_ble_eq_true rfl, Nat.le_of_ble_eq_true rfl⟩ dL_passes_60 (z_p ?_)
        refine z_stk (st' := [.int (nI now)]) rfl ?_
        refine z_istore (lv' := [(6, .int (nI now)), (0, .ref a0), (1, .int (nI h)), (2, .int (nI (oW fd n))), (3, .int (nI (smV (fun j => hpV h (fd j)) n))), (4, .int (nI (smV (fun j => fTk (fd j)) n))), (5, .int (nI 0))]) C dL_passes_63 (by decide) rfl ?_
        refine z_aload_n C dL_passes_65 rfl 1 rfl ?_
        refine z_iload_n C dL_passes_66 rfl 2 rfl ?_
        refine z_callVX (As := [.int (nI h)]) (st := []) (mc := 1) (ms := 6) C hL0 hF0 rfl (c_X2_pass l hlst G L F M a0 a1 a2 b4 b5 b6 b7 ad n now sl fd hco (nI h) (by omega)) (cwV 1 C.1.2.2.2.2 gL_passes_X2_pass rfl rfl rfl (by decide +kernel) ⟨Nat.le_of_ble_eq_true rfl, Nat.le_of_ble_eq_true rfl⟩) rfl (Nat.le_of_ble_eq_true rfl) ⟨Nat.le_of_ble_eq_true rfl, Nat.le_of_ble_eq_true rfl⟩ dL_passes_67 (fun E9 L9 F9 hx => absurd (zIn_in (by decide) (by omega) (by omega) rfl) hx.2.2.2) (fun rv9 L9 F9 hp9 => ?_)
        obtain ⟨h9, e90, g91, g92, e91, e92, hco9, hkM9⟩ := hp9
        obtain rfl : h = h9 := nIe (by omega) (by omega) e90
        rw [e91, e92]
        refine z_stk (st' := [.int (nI (now + h))]) rfl ?_
        obtain ⟨fd2, hfd2⟩ : ∃ g, g = fdK (fun _ r => fPs h r) fd n := ⟨_, rfl⟩
        rw [← hfd2] at hco9
        have r1 := ps_out (n := n) (h := h) (fd := fd)
        rw [← hfd2] at r1
        have r2 := ps_load (n := n) (h := h) (fd := fd)
        rw [← hfd2] at r2
        have r3 := ps_ho (h := h) (fun j hj => (hok j hj).2.2.2.2.1)
        rw [← hfd2] at r3
        have r5 := ps_fN (h := h) hz
        rw [← hfd2] at r5
        have hF_hco9 := hco9.2.1
        have ok_fd2 : ∀ j, j < n → fOk (now + h) (fd2 j) := fun j hj => (hco9.2.2.2.2.2.1 j hj).2.2.1
        have rz := r5.2
        have tk2 := tk_12 hn ok_fd2
        have rs2 := rs_12 hn ok_fd2
        have rl2 := rs_load (n := n) (fd := fd2)
        have hp1 := hp_12 (h := h) hn hnow (by omega) hok
        refine z_iload C dL_passes_70 0 rfl ?_
        refine z_iload_n C dL_passes_72 rfl 2 rfl ?_
        refine z_iadd C (nI (now + h)) dL_passes_73 (nI_add now h) ?_
        refine z_icmp_ne C 94 (((now + h : Nat) : Int) = ((now + h : Nat) : Int)) (zi_eq (zi_N (n := now + h) (by omega)) (zi_N (n := now + h) (by omega))) dL_passes_74 (by decide) (fun c2_ => absurd c2_ (by omega)) (fun c2_ => ?_)
        refine z_aload_n C dL_passes_77 rfl 1 rfl ?_
        refine z_callS (As := [.ref a0]) (st := []) (mc := 0) (ms := 0) C (c_L_out l hlst G L F9 M a0 n (now + h) sl fd2 hco9.cl) (va_cwS 1 C.1.2.2.2.2 gL_passes_L_out rfl rfl rfl (by decide +kernel) ⟨Nat.le_of_ble_eq_true rfl, Nat.le_of_ble_eq_true rfl⟩) rfl (Nat.le_of_ble_eq_true rfl) ⟨Nat.le_of_ble_eq_true rfl, Nat.le_of_ble_eq_true rfl⟩ dL_passes_78 (z_p ?_)
        refine z_stk (st' := [.int (nI (oW fd2 n))]) rfl ?_
        have ow_fd2 := oW_lt (fd := fd2) hn
        refine z_iload_n C dL_passes_81 rfl 3 rfl ?_
        refine z_icmp_ne C 94 (((oW fd2 n : Nat) : Int) = ((oW fd n : Nat) : Int)) (zi_eq (zi_N (n := oW fd2 n) (by omega)) (zi_N (n := oW fd n) (by omega))) dL_passes_82 (by decide) (fun c3_ => absurd c3_ (by omega)) (fun c3_ => ?_)
        refine z_aload_n C dL_passes_85 rfl 1 rfl ?_
        refine z_callV (As := []) (st := []) (mc := 0) (ms := 0) C hL0 hF_hco9 rfl (c_X2_load l hlst G L F9 M a0 a1 a2 b4 b5 b6 b7 ad n (now + h) sl fd2 hco9) (cwV 0 C.1.2.2.2.2 gL_passes_X2_load rfl rfl rfl (by decide +kernel) ⟨Nat.le_of_ble_eq_true rfl, Nat.le_of_ble_eq_true rfl⟩) rfl (Nat.le_of_ble_eq_true rfl) ⟨Nat.le_of_ble_eq_true rfl, Nat.le_of_ble_eq_true rfl⟩ dL_passes_86 (z_p ?_)
        refine z_stk (st' := [.int (nI (smV (fun j => fTk (fd2 j)) n))]) rfl ?_
        refine z_iload C dL_passes_89 5 rfl ?_
        refine z_icmp_le C 96 (((smV (fun j => fTk (fd2 j)) n : Nat) : Int) ≤ ((smV (fun j => fTk (fd j)) n : Nat) : Int)) (zi_le (zi_N (n := smV (fun j => fTk (fd2 j)) n) (by omega)) (zi_N (n := smV (fun j => fTk (fd j)) n) (by omega))) dL_passes_91 (by decide) (fun c4_ => ?_) (fun c4_ => absurd c4_ (by omega))
        refine z_iconst C (nI 0) dL_passes_96 (by decide) ?_
        refine z_istore (lv' := [(7, .int (nI 0)), (6, .int (nI now)), (0, .ref a0), (1, .int (nI h)), (2, .int (nI (oW fd n))), (3, .int (nI (smV (fun j => hpV h (fd j)) n))), (4, .int (nI (smV (fun j => fTk (fd j)) n))), (5, .int (nI 0))]) C dL_passes_97 (by decide) rfl ?_
        refine z_lvs (lv' := [(7, .int (nI 0)), (6, .int (nI now)), (0, .ref a0), (1, .int (nI h)), (2, .int (nI (oW fd n))), (3, .int (nI (smV (fun j => hpV h (fd j)) n - smV (fun j => fHo (fd2 j)) 0))), (4, .int (nI (smV (fun j => fTk (fd j)) n))), (5, .int (nI (smV (fun j => fTk (fd2 j)) 0)))]) (by rw [show smV (fun j => fHo (fd2 j)) 0 = 0 from rfl, Nat.sub_zero] <;> rfl) ?_
        refine z_sub (lv' := [(0, .ref a0), (1, .int (nI h)), (3, .int (nI (smV (fun j => hpV h (fd j)) n - smV (fun j => fHo (fd2 j)) 0))), (5, .int (nI (smV (fun j => fTk (fd2 j)) 0))), (7, .int (nI 0))]) [2, 3, 5, 7, 0] rfl ?_
        have lp99 : ∀ (N9 : Nat) (k : Nat) (hk : k ≤ n) (h9 : n - k < N9), zW p l e { frames := 13, cells := 1, slots := 6, locals := 218 } s m [.ref a0, .int (nI h)].toArray below meth c 8 G A (MQ below (zQ G (fun rv L1 F1 => rv = some (.int (nI 1)) ∧ L1 = L ∧ ∃ g : Nat → FdT, zCl G M L F1 a0 n (now + h) sl g ∧ fN n fd g) A) [.ref a0, .int (nI h)].toArray s 1 6 A) (0 + 1) (0 + 6) L F9 99 [(0, .ref a0), (1, .int (nI h)), (3, .int (nI (smV (fun j => hpV h (fd j)) n - smV (fun j => fHo (fd2 j)) k))), (5, .int (nI (smV (fun j => fTk (fd2 j)) k))), (7, .int (nI k))] [] := by
          intro N9
          induction N9 with
          | zero => intro k hk h9; exact absurd h9 (Nat.not_lt_zero _)
          | succ N9 ih99 =>
            intro k hk hN99
            refine z_iload C dL_passes_99 4 rfl ?_
            refine z_aload_n C dL_passes_101 rfl 0 rfl ?_
            refine z_callV (As := []) (st := [.int (nI k)]) (mc := 0) (ms := 0) C hL0 hF_hco9 rfl (c_X2_feeders l hlst G L F9 M a0 a1 a2 b4 b5 b6 b7 ad n (now + h) sl fd2 hco9) (cwV 0 C.1.2.2.2.2 gL_passes_X2_feeders rfl rfl rfl (by decide +kernel) ⟨Nat.le_of_ble_eq_true rfl, Nat.le_of_ble_eq_true rfl⟩) rfl (Nat.le_of_ble_eq_true rfl) ⟨Nat.le_of_ble_eq_true rfl, Nat.le_of_ble_eq_true rfl⟩ dL_passes_102 (z_p ?_)
            refine z_stk (st' := [.int (nI n), .int (nI k)]) rfl ?_
            refine z_icmp_ge C 183 (((n : Nat) : Int) ≤ ((k : Nat) : Int)) (zi_le (zi_N (n := n) (by omega)) (zi_N (n := k) (by omega))) dL_passes_105 (by decide) (fun c5_ => ?_) (fun c5_ => ?_)
            · -- 105 taken
              obtain rfl : n = k := by omega
              refine z_iload_n C dL_passes_183 rfl 2 rfl ?_
              refine z_if_ne C 221 (((smV (fun j => hpV h (fd j)) n - smV (fun j => fHo (fd2 j)) n : Nat) : Int) = (0 : Int)) (zi_eq (zi_N (n := smV (fun j => hpV h (fd j)) n - smV (fun j => fHo (fd2 j)) n) (by omega)) zi_0) dL_passes_184 (by decide) (fun c6_ => absurd c6_ (by omega)) (fun c6_ => ?_)
              refine z_iload C dL_passes_187 3 rfl ?_
              refine z_aload_n C dL_passes_189 rfl 0 rfl ?_
              refine z_callV (As := []) (st := [.int (nI (smV (fun j => fTk (fd2 j)) n))]) (mc := 0) (ms := 0) C hL0 hF_hco9 rfl (c_X2_load l hlst G L F9 M a0 a1 a2 b4 b5 b6 b7 ad n (now + h) sl fd2 hco9) (cwV 0 C.1.2.2.2.2 gL_passes_X2_load rfl rfl rfl (by decide +kernel) ⟨Nat.le_of_ble_eq_true rfl, Nat.le_of_ble_eq_true rfl⟩) rfl (Nat.le_of_ble_eq_true rfl) ⟨Nat.le_of_ble_eq_true rfl, Nat.le_of_ble_eq_true rfl⟩ dL_passes_190 (z_p ?_)
              refine z_stk (st' := [.int (nI (smV (fun j => fTk (fd2 j)) n)), .int (nI (smV (fun j => fTk (fd2 j)) n))]) rfl ?_
              refine z_icmp_ne C 221 (((smV (fun j => fTk (fd2 j)) n : Nat) : Int) = ((smV (fun j => fTk (fd2 j)) n : Nat) : Int)) (zi_eq (zi_N (n := smV (fun j => fTk (fd2 j)) n) (by omega)) (zi_N (n := smV (fun j => fTk (fd2 j)) n) (by omega))) dL_passes_193 (by decide) (fun c7_ => absurd c7_ (by omega)) (fun c7_ => ?_)
              refine z_aload_n C dL_passes_196 rfl 0 rfl ?_
              refine z_callV (As := []) (st := []) (mc := 0) (ms := 0) C hL0 hF_hco9 rfl (c_X2_loadRestored l hlst G L F9 M a0 a1 a2 b4 b5 b6 b7 ad n (now + h) sl fd2 hco9) (cwV 0 C.1.2.2.2.2 gL_passes_X2_loadRestored rfl rfl rfl (by decide +kernel) ⟨Nat.le_of_ble_eq_true rfl, Nat.le_of_ble_eq_true rfl⟩) rfl (Nat.le_of_ble_eq_true rfl) ⟨Nat.le_of_ble_eq_true rfl, Nat.le_of_ble_eq_true rfl⟩ dL_passes_197 (z_p ?_)
              refine z_stk (st' := [.int (nI (smV (fun j => fRs (fd2 j)) n))]) rfl ?_
              refine z_iload C dL_passes_200 3 rfl ?_
              refine z_icmp_lt C 221 (((smV (fun j => fRs (fd2 j)) n : Nat) : Int) < ((smV (fun j => fTk (fd2 j)) n : Nat) : Int)) (zi_lt (zi_N (n := smV (fun j => fRs (fd2 j)) n) (by omega)) (zi_N (n := smV (fun j => fTk (fd2 j)) n) (by omega))) dL_passes_202 (by decide) (fun c8_ => absurd c8_ (by omega)) (fun c8_ => ?_)
              refine z_iload_n C dL_passes_205 rfl 1 rfl ?_
              refine z_iconst C (nI 5) dL_passes_206 (by decide) ?_
              refine z_icmp_lt C 217 (((h : Nat) : Int) < ((5 : Nat) : Int)) (zi_lt (zi_N (n := h) (by omega)) (zi_N (n := 5) (by omega))) dL_passes_207 (by decide) (fun c9_ => ?_) (fun c9_ => ?_)
              · -- 207 taken
                refine z_iconst C (nI 1) dL_passes_217 (by decide) ?_
                refine z_goto C 222 dL_passes_218 (by decide) ?_
                refine z_iret0 C rfl rfl (by decide) (by decide) dL_passes_222 ?_
                exact ⟨rfl, rfl, fd2, hco9.cl, r5⟩
              · -- 207 not taken
                have hc9 := ps_cold (h := h) (by omega) hok hz
                rw [← hfd2] at hc9
                refine z_aload_n C dL_passes_210 rfl 0 rfl ?_
                refine z_callS (As := [.ref a0]) (st := []) (mc := 0) (ms := 0) C (c_L_noneCold l hlst G L F9 M a0 n (now + h) sl fd2 hco9.cl hc9) (va_cwS 1 C.1.2.2.2.2 gL_passes_L_noneCold rfl rfl rfl (by decide +kernel) ⟨Nat.le_of_ble_eq_true rfl, Nat.le_of_ble_eq_true rfl⟩) rfl (Nat.le_of_ble_eq_true rfl) ⟨Nat.le_of_ble_eq_true rfl, Nat.le_of_ble_eq_true rfl⟩ dL_passes_211 (z_p ?_)
                refine z_stk (st' := [.int (nI 1)]) rfl ?_
                refine z_if_eq C 221 (((1 : Nat) : Int) = (0 : Int)) (zi_eq (zi_N (n := 1) (by omega)) zi_0) dL_passes_214 (by decide) (fun c10_ => absurd c10_ (by omega)) (fun c10_ => ?_)
                refine z_iconst C (nI 1) dL_passes_217 (by decide) ?_
                refine z_goto C 222 dL_passes_218 (by decide) ?_
                refine z_iret0 C rfl rfl (by decide) (by decide) dL_passes_222 ?_
                exact ⟨rfl, rfl, fd2, hco9.cl, r5⟩
            · -- 105 not taken
              refine z_iload_n C dL_passes_108 rfl 2 rfl ?_
              refine z_aload_n C dL_passes_109 rfl 0 rfl ?_
              refine z_iload C dL_passes_110 4 rfl ?_
              refine z_callV (As := [.int (nI k)]) (st := [.int (nI (smV (fun j => hpV h (fd j)) n - smV (fun j => fHo (fd2 j)) k))]) (mc := 0) (ms := 0) C hL0 hF_hco9 rfl (m_X2_hours l hlst G L F9 M a0 a1 a2 b4 b5 b6 b7 ad n (now + h) sl fd2 hco9 k (by omega)) (cwV 1 C.1.2.2.2.2 gL_passes_X2_hours rfl rfl rfl (by decide +kernel) ⟨Nat.le_of_ble_eq_true rfl, Nat.le_of_ble_eq_true rfl⟩) rfl (Nat.le_of_ble_eq_true rfl) ⟨Nat.le_of_ble_eq_true rfl, Nat.le_of_ble_eq_true rfl⟩ dL_passes_112 (z_p ?_)
              refine z_stk (st' := [.int (nI (fHo (fd2 k))), .int (nI (smV (fun j => hpV h (fd j)) n - smV (fun j => fHo (fd2 j)) k))]) rfl ?_
              have u6 := (ok_fd2 k (by omega)).2.2.2.2.2.1
              refine z_isub C (nI (smV (fun j => hpV h (fd j)) n - smV (fun j => fHo (fd2 j)) (k + 1))) dL_passes_115 (sub_step (f := fun j => fHo (fd2 j)) (by omega) r3) ?_
              refine z_istore_n (lv' := [(3, .int (nI (smV (fun j => hpV h (fd j)) n - smV (fun j => fHo (fd2 j)) (k + 1)))), (0, .ref a0), (1, .int (nI h)), (5, .int (nI (smV (fun j => fTk (fd2 j)) k))), (7, .int (nI k))]) C dL_passes_116 rfl (by decide) rfl ?_
              refine z_aload_n C dL_passes_117 rfl 1 rfl ?_
              refine z_iload C dL_passes_118 4 rfl ?_
              refine z_callV (As := [.int (nI k)]) (st := []) (mc := 0) (ms := 0) C hL0 hF_hco9 rfl (m_X2_cold l hlst G L F9 M a0 a1 a2 b4 b5 b6 b7 ad n (now + h) sl fd2 hco9 k (by omega)) (cwV 1 C.1.2.2.2.2 gL_passes_X2_cold rfl rfl rfl (by decide +kernel) ⟨Nat.le_of_ble_eq_true rfl, Nat.le_of_ble_eq_true rfl⟩) rfl (Nat.le_of_ble_eq_true rfl) ⟨Nat.le_of_ble_eq_true rfl, Nat.le_of_ble_eq_true rfl⟩ dL_passes_120 (z_p ?_)
              refine z_stk (st' := [.int (nI (fCo (fd2 k)))]) rfl ?_
              have u8 := (ok_fd2 k (by omega)).2.2.2.2.2.2.2
              refine z_if_lt C 164 (((fCo (fd2 k) : Nat) : Int) < (0 : Int)) (zi_lt (zi_N (n := fCo (fd2 k)) (by omega)) zi_0) dL_passes_123 (by decide) (fun c11_ => absurd c11_ (by omega)) (fun c11_ => ?_)
              refine z_aload_n C dL_passes_126 rfl 1 rfl ?_
              refine z_iload C dL_passes_127 4 rfl ?_
              refine z_callV (As := [.int (nI k)]) (st := []) (mc := 0) (ms := 0) C hL0 hF_hco9 rfl (m_X2_cold l hlst G L F9 M a0 a1 a2 b4 b5 b6 b7 ad n (now + h) sl fd2 hco9 k (by omega)) (cwV 1 C.1.2.2.2.2 gL_passes_X2_cold rfl rfl rfl (by decide +kernel) ⟨Nat.le_of_ble_eq_true rfl, Nat.le_of_ble_eq_true rfl⟩) rfl (Nat.le_of_ble_eq_true rfl) ⟨Nat.le_of_ble_eq_true rfl, Nat.le_of_ble_eq_true rfl⟩ dL_passes_129 (z_p ?_)
              refine z_stk (st' := [.int (nI (fCo (fd2 k)))]) rfl ?_
              have u8 := (ok_fd2 k (by omega)).2.2.2.2.2.2.2
              refine z_bipush C (nI 100) dL_passes_132 (by decide) ?_
              refine z_icmp_gt C 164 (((100 : Nat) : Int) < ((fCo (fd2 k) : Nat) : Int)) (zi_lt (zi_N (n := 100) (by omega)) (zi_N (n := fCo (fd2 k)) (by omega))) dL_passes_134 (by decide) (fun c12_ => absurd c12_ (by omega)) (fun c12_ => ?_)
              refine z_aload_n C dL_passes_137 rfl 1 rfl ?_
              refine z_iload C dL_passes_138 4 rfl ?_
              refine z_callV (As := [.int (nI k)]) (st := []) (mc := 0) (ms := 0) C hL0 hF_hco9 rfl (m_X2_isCut l hlst G L F9 M a0 a1 a2 b4 b5 b6 b7 ad n (now + h) sl fd2 hco9 k (by omega)) (cwV 1 C.1.2.2.2.2 gL_passes_X2_isCut rfl rfl rfl (by decide +kernel) ⟨Nat.le_of_ble_eq_true rfl, Nat.le_of_ble_eq_true rfl⟩) rfl (Nat.le_of_ble_eq_true rfl) ⟨Nat.le_of_ble_eq_true rfl, Nat.le_of_ble_eq_true rfl⟩ dL_passes_140 (z_p ?_)
              refine z_stk (st' := [.int (nI (fOf (fd2 k)))]) rfl ?_
              have u5 := (ok_fd2 k (by omega)).2.2.2.2.1
              refine z_if_eq C 166 (((fOf (fd2 k) : Nat) : Int) = (0 : Int)) (zi_eq (zi_N (n := fOf (fd2 k)) (by omega)) zi_0) dL_passes_143 (by decide) (fun c13_ => ?_) (fun c13_ => ?_)
              · -- 143 taken
                refine z_iload C dL_passes_166 3 rfl ?_
                refine z_aload_n C dL_passes_168 rfl 1 rfl ?_
                refine z_iload C dL_passes_169 4 rfl ?_
                refine z_callV (As := [.int (nI k)]) (st := [.int (nI (smV (fun j => fTk (fd2 j)) k))]) (mc := 0) (ms := 0) C hL0 hF_hco9 rfl (m_X2_takes l hlst G L F9 M a0 a1 a2 b4 b5 b6 b7 ad n (now + h) sl fd2 hco9 k (by omega)) (cwV 1 C.1.2.2.2.2 gL_passes_X2_takes rfl rfl rfl (by decide +kernel) ⟨Nat.le_of_ble_eq_true rfl, Nat.le_of_ble_eq_true rfl⟩) rfl (Nat.le_of_ble_eq_true rfl) ⟨Nat.le_of_ble_eq_true rfl, Nat.le_of_ble_eq_true rfl⟩ dL_passes_171 (z_p ?_)
                refine z_stk (st' := [.int (nI (fTk (fd2 k))), .int (nI (smV (fun j => fTk (fd2 j)) k))]) rfl ?_
                have t9 := fTk_le (ok_fd2 k (by omega))
                refine z_iadd C (nI (smV (fun j => fTk (fd2 j)) k + fTk (fd2 k))) dL_passes_174 (nI_add (smV (fun j => fTk (fd2 j)) k) (fTk (fd2 k))) ?_
                refine z_istore (lv' := [(5, .int (nI (smV (fun j => fTk (fd2 j)) k + fTk (fd2 k)))), (3, .int (nI (smV (fun j => hpV h (fd j)) n - smV (fun j => fHo (fd2 j)) (k + 1)))), (0, .ref a0), (1, .int (nI h)), (7, .int (nI k))]) C dL_passes_175 (by decide) rfl ?_
                refine z_iinc (v := nI (k + 1)) (lv' := [(7, .int (nI (k + 1))), (5, .int (nI (smV (fun j => fTk (fd2 j)) k + fTk (fd2 k)))), (3, .int (nI (smV (fun j => hpV h (fd j)) n - smV (fun j => fHo (fd2 j)) (k + 1)))), (0, .ref a0), (1, .int (nI h))]) C dL_passes_177 4 rfl (nI_add k 1) (by decide) rfl ?_
                refine z_goto C 99 dL_passes_180 (by decide) ?_
                refine z_lvs (lv' := [(7, .int (nI (k + 1))), (5, .int (nI (smV (fun j => fTk (fd2 j)) (k + 1)))), (3, .int (nI (smV (fun j => hpV h (fd j)) n - smV (fun j => fHo (fd2 j)) (k + 1)))), (0, .ref a0), (1, .int (nI h))]) rfl ?_
                refine z_sub (lv' := [(0, .ref a0), (1, .int (nI h)), (3, .int (nI (smV (fun j => hpV h (fd j)) n - smV (fun j => fHo (fd2 j)) (k + 1)))), (5, .int (nI (smV (fun j => fTk (fd2 j)) (k + 1)))), (7, .int (nI (k + 1)))]) [3, 4, 2, 1, 0] rfl ?_
                exact ih99 (k + 1) (by omega) (by omega)
              · -- 143 not taken
                have tz := fTk_cut (r := fd2 k) (by omega)
                have cz := rz k (by omega) (by omega)
                refine z_aload_n C dL_passes_146 rfl 1 rfl ?_
                refine z_iload C dL_passes_147 4 rfl ?_
                refine z_callV (As := [.int (nI k)]) (st := []) (mc := 0) (ms := 0) C hL0 hF_hco9 rfl (m_X2_takes l hlst G L F9 M a0 a1 a2 b4 b5 b6 b7 ad n (now + h) sl fd2 hco9 k (by omega)) (cwV 1 C.1.2.2.2.2 gL_passes_X2_takes rfl rfl rfl (by decide +kernel) ⟨Nat.le_of_ble_eq_true rfl, Nat.le_of_ble_eq_true rfl⟩) rfl (Nat.le_of_ble_eq_true rfl) ⟨Nat.le_of_ble_eq_true rfl, Nat.le_of_ble_eq_true rfl⟩ dL_passes_149 (z_p ?_)
                refine z_stk (st' := [.int (nI (fTk (fd2 k)))]) rfl ?_
                have t9 := fTk_le (ok_fd2 k (by omega))
                refine z_if_ne C 164 (((fTk (fd2 k) : Nat) : Int) = (0 : Int)) (zi_eq (zi_N (n := fTk (fd2 k)) (by omega)) zi_0) dL_passes_152 (by decide) (fun c14_ => absurd c14_ (by omega)) (fun c14_ => ?_)
                refine z_aload_n C dL_passes_155 rfl 1 rfl ?_
                refine z_iload C dL_passes_156 4 rfl ?_
                refine z_callV (As := [.int (nI k)]) (st := []) (mc := 0) (ms := 0) C hL0 hF_hco9 rfl (m_X2_cold l hlst G L F9 M a0 a1 a2 b4 b5 b6 b7 ad n (now + h) sl fd2 hco9 k (by omega)) (cwV 1 C.1.2.2.2.2 gL_passes_X2_cold rfl rfl rfl (by decide +kernel) ⟨Nat.le_of_ble_eq_true rfl, Nat.le_of_ble_eq_true rfl⟩) rfl (Nat.le_of_ble_eq_true rfl) ⟨Nat.le_of_ble_eq_true rfl, Nat.le_of_ble_eq_true rfl⟩ dL_passes_158 (z_p ?_)
                refine z_stk (st' := [.int (nI (fCo (fd2 k)))]) rfl ?_
                have u8 := (ok_fd2 k (by omega)).2.2.2.2.2.2.2
                refine z_if_eq C 166 (((fCo (fd2 k) : Nat) : Int) = (0 : Int)) (zi_eq (zi_N (n := fCo (fd2 k)) (by omega)) zi_0) dL_passes_161 (by decide) (fun c15_ => ?_) (fun c15_ => absurd c15_ (by omega))
                refine z_iload C dL_passes_166 3 rfl ?_
                refine z_aload_n C dL_passes_168 rfl 1 rfl ?_
                refine z_iload C dL_passes_169 4 rfl ?_
                refine z_callV (As := [.int (nI k)]) (st := [.int (nI (smV (fun j => fTk (fd2 j)) k))]) (mc := 0) (ms := 0) C hL0 hF_hco9 rfl (m_X2_takes l hlst G L F9 M a0 a1 a2 b4 b5 b6 b7 ad n (now + h) sl fd2 hco9 k (by omega)) (cwV 1 C.1.2.2.2.2 gL_passes_X2_takes rfl rfl rfl (by decide +kernel) ⟨Nat.le_of_ble_eq_true rfl, Nat.le_of_ble_eq_true rfl⟩) rfl (Nat.le_of_ble_eq_true rfl) ⟨Nat.le_of_ble_eq_true rfl, Nat.le_of_ble_eq_true rfl⟩ dL_passes_171 (z_p ?_)
                refine z_stk (st' := [.int (nI (fTk (fd2 k))), .int (nI (smV (fun j => fTk (fd2 j)) k))]) rfl ?_
                have t9 := fTk_le (ok_fd2 k (by omega))
                refine z_iadd C (nI (smV (fun j => fTk (fd2 j)) k + fTk (fd2 k))) dL_passes_174 (nI_add (smV (fun j => fTk (fd2 j)) k) (fTk (fd2 k))) ?_
                refine z_istore (lv' := [(5, .int (nI (smV (fun j => fTk (fd2 j)) k + fTk (fd2 k)))), (3, .int (nI (smV (fun j => hpV h (fd j)) n - smV (fun j => fHo (fd2 j)) (k + 1)))), (0, .ref a0), (1, .int (nI h)), (7, .int (nI k))]) C dL_passes_175 (by decide) rfl ?_
                refine z_iinc (v := nI (k + 1)) (lv' := [(7, .int (nI (k + 1))), (5, .int (nI (smV (fun j => fTk (fd2 j)) k + fTk (fd2 k)))), (3, .int (nI (smV (fun j => hpV h (fd j)) n - smV (fun j => fHo (fd2 j)) (k + 1)))), (0, .ref a0), (1, .int (nI h))]) C dL_passes_177 4 rfl (nI_add k 1) (by decide) rfl ?_
                refine z_goto C 99 dL_passes_180 (by decide) ?_
                refine z_lvs (lv' := [(7, .int (nI (k + 1))), (5, .int (nI (smV (fun j => fTk (fd2 j)) (k + 1)))), (3, .int (nI (smV (fun j => hpV h (fd j)) n - smV (fun j => fHo (fd2 j)) (k + 1)))), (0, .ref a0), (1, .int (nI h))]) rfl ?_
                refine z_sub (lv' := [(0, .ref a0), (1, .int (nI h)), (3, .int (nI (smV (fun j => hpV h (fd j)) n - smV (fun j => fHo (fd2 j)) (k + 1)))), (5, .int (nI (smV (fun j => fTk (fd2 j)) (k + 1)))), (7, .int (nI (k + 1)))]) [3, 4, 2, 1, 0] rfl ?_
                exact ih99 (k + 1) (by omega) (by omega)
        exact lp99 _ 0 (Nat.zero_le _) (Nat.lt_succ_self _)
      · -- 25 not taken
        refine z_iload_n C dL_passes_28 rfl 3 rfl ?_
        refine z_aload_n C dL_passes_29 rfl 0 rfl ?_
        refine z_iload C dL_passes_30 6 rfl ?_
        refine z_callV (As := [.int (nI k)]) (st := [.int (nI (smV (fun j => hpV h (fd j)) k))]) (mc := 0) (ms := 0) C hL0 hF0 rfl (m_X2_hours l hlst G L F M a0 a1 a2 b4 b5 b6 b7 ad n now sl fd hco k (by omega)) (cwV 1 C.1.2.2.2.2 gL_passes_X2_hours rfl rfl rfl (by decide +kernel) ⟨Nat.le_of_ble_eq_true rfl, Nat.le_of_ble_eq_true rfl⟩) rfl (Nat.le_of_ble_eq_true rfl) ⟨Nat.le_of_ble_eq_true rfl, Nat.le_of_ble_eq_true rfl⟩ dL_passes_32 (z_p ?_)
        refine z_stk (st' := [.int (nI (fHo (fd k))), .int (nI (smV (fun j => hpV h (fd j)) k))]) rfl ?_
        have u6 := (hok k (by omega)).2.2.2.2.2.1
        refine z_iload_n C dL_passes_35 rfl 2 rfl ?_
        refine z_iload C dL_passes_36 6 rfl ?_
        refine z_ishr C (nI (oW fd n / 2 ^ k)) dL_passes_38 (bit_of (by omega) (by omega)) ?_
        refine z_iconst C (nI 1) dL_passes_39 (by decide) ?_
        refine z_iand C (nI (bitV (oW fd n) k)) dL_passes_40 (bit_and k (by omega)) ?_
        have hbv := bitV_le (oW fd n) k
        refine z_iconst C (nI 1) dL_passes_41 (by decide) ?_
        refine z_icmp_ne C 49 (((bitV (oW fd n) k : Nat) : Int) = ((1 : Nat) : Int)) (zi_eq (zi_N (n := bitV (oW fd n) k) (by omega)) (zi_N (n := 1) (by omega))) dL_passes_42 (by decide) (fun c16_ => ?_) (fun c16_ => ?_)
        · -- 42 taken
          refine z_iconst C (nI 0) dL_passes_49 (by decide) ?_
          refine z_iadd C (nI (fHo (fd k) + 0)) dL_passes_50 (nI_add (fHo (fd k)) 0) ?_
          refine z_iadd C (nI (smV (fun j => hpV h (fd j)) k + (fHo (fd k) + 0))) dL_passes_51 (nI_add _ _) ?_
          refine z_istore_n (lv' := [(3, .int (nI (smV (fun j => hpV h (fd j)) k + (fHo (fd k) + 0)))), (0, .ref a0), (1, .int (nI h)), (2, .int (nI (oW fd n))), (4, .int (nI (smV (fun j => fTk (fd j)) n))), (5, .int (nI 0)), (6, .int (nI k))]) C dL_passes_52 rfl (by decide) rfl ?_
          refine z_iinc (v := nI (k + 1)) (lv' := [(6, .int (nI (k + 1))), (3, .int (nI (smV (fun j => hpV h (fd j)) k + (fHo (fd k) + 0)))), (0, .ref a0), (1, .int (nI h)), (2, .int (nI (oW fd n))), (4, .int (nI (smV (fun j => fTk (fd j)) n))), (5, .int (nI 0))]) C dL_passes_53 6 rfl (nI_add k 1) (by decide) rfl ?_
          refine z_goto C 19 dL_passes_56 (by decide) ?_
          refine z_lvs (lv' := [(6, .int (nI (k + 1))), (3, .int (nI (smV (fun j => hpV h (fd j)) (k + 1)))), (0, .ref a0), (1, .int (nI h)), (2, .int (nI (oW fd n))), (4, .int (nI (smV (fun j => fTk (fd j)) n))), (5, .int (nI 0))]) (by rw [hp_0 (fd := fd) (h := h) (k := k) (n := n) (by omega) (by omega)]) ?_
          refine z_sub (lv' := [(0, .ref a0), (1, .int (nI h)), (2, .int (nI (oW fd n))), (3, .int (nI (smV (fun j => hpV h (fd j)) (k + 1)))), (4, .int (nI (smV (fun j => fTk (fd j)) n))), (5, .int (nI 0)), (6, .int (nI (k + 1)))]) [2, 3, 4, 1, 5, 6, 0] rfl ?_
          exact ih19 (k + 1) (by omega) (by omega)
        · -- 42 not taken
          refine z_iload_n C dL_passes_45 rfl 1 rfl ?_
          refine z_goto C 50 dL_passes_46 (by decide) ?_
          refine z_iadd C (nI (fHo (fd k) + h)) dL_passes_50 (nI_add (fHo (fd k)) h) ?_
          refine z_iadd C (nI (smV (fun j => hpV h (fd j)) k + (fHo (fd k) + h))) dL_passes_51 (nI_add _ _) ?_
          refine z_istore_n (lv' := [(3, .int (nI (smV (fun j => hpV h (fd j)) k + (fHo (fd k) + h)))), (0, .ref a0), (1, .int (nI h)), (2, .int (nI (oW fd n))), (4, .int (nI (smV (fun j => fTk (fd j)) n))), (5, .int (nI 0)), (6, .int (nI k))]) C dL_passes_52 rfl (by decide) rfl ?_
          refine z_iinc (v := nI (k + 1)) (lv' := [(6, .int (nI (k + 1))), (3, .int (nI (smV (fun j => hpV h (fd j)) k + (fHo (fd k) + h)))), (0, .ref a0), (1, .int (nI h)), (2, .int (nI (oW fd n))), (4, .int (nI (smV (fun j => fTk (fd j)) n))), (5, .int (nI 0))]) C dL_passes_53 6 rfl (nI_add k 1) (by decide) rfl ?_
          refine z_goto C 19 dL_passes_56 (by decide) ?_
          refine z_lvs (lv' := [(6, .int (nI (k + 1))), (3, .int (nI (smV (fun j => hpV h (fd j)) (k + 1)))), (0, .ref a0), (1, .int (nI h)), (2, .int (nI (oW fd n))), (4, .int (nI (smV (fun j => fTk (fd j)) n))), (5, .int (nI 0))]) (by rw [hp_1 (fd := fd) (h := h) (k := k) (n := n) (by omega) (by omega)]) ?_
          refine z_sub (lv' := [(0, .ref a0), (1, .int (nI h)), (2, .int (nI (oW fd n))), (3, .int (nI (smV (fun j => hpV h (fd j)) (k + 1)))), (4, .int (nI (smV (fun j => fTk (fd j)) n))), (5, .int (nI 0)), (6, .int (nI (k + 1)))]) [2, 3, 4, 1, 5, 6, 0] rfl ?_
          exact ih19 (k + 1) (by omega) (by omega)
  exact lp19 _ 0 (Nat.zero_le _) (Nat.lt_succ_self _)
