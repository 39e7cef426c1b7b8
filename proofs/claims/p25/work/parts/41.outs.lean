set_option maxHeartbeats 4000000 in
set_option maxRecDepth 100000 in
theorem c_L_out (l : Launch) (hlst : l.stackTraces = false) (G : zGt) (L : List Nat) (F : Nat → va_E) (M : Nat → Prop) (a0 n now sl : Nat) (fd : Nat → FdT) (hcl : zCl G M L F a0 n now sl fd)  : zM l yL_out wsL_out 12 196 0 0 G L F [.ref a0] (fun rv L1 F1 => rv = some (.int (nI (oW fd n))) ∧ L1 = L ∧ F1 = F) := by
  obtain ⟨a1, a2, b4, b5, b6, b7, ad, hco⟩ := hcl
  have hL0 := hco.1.1
  have hF0 := hco.2.1
  obtain ⟨hn, hnow, hsl⟩ := hco.2.2.2.2.2.2.2.1
  have hok : ∀ j, j < n → fOk now (fd j) := fun j hj => (hco.2.2.2.2.2.1 j hj).2.2.1
  refine z_of (cc := cL_out) (nL := 3) (ret := (some .int)) (own := RL) hlst (by decide +kernel) rfl rfl (Nat.le_of_ble_eq_true rfl) ?_
  intro p e s m below meth c A hnm C
  refine z_lvs (lv' := [(0, .ref a0)]) rfl ?_
  refine z_iconst C (nI 0) dL_out_0 (by decide) ?_
  refine z_istore_n (lv' := [(1, .int (nI 0)), (0, .ref a0)]) C dL_out_1 rfl (by decide) rfl ?_
  refine z_iconst C (nI 0) dL_out_2 (by decide) ?_
  refine z_istore_n (lv' := [(2, .int (nI 0)), (1, .int (nI 0)), (0, .ref a0)]) C dL_out_3 rfl (by decide) rfl ?_
  refine z_lvs (lv' := [(2, .int (nI 0)), (1, .int (nI (bsV (fun j => fOf (fd j)) 0))), (0, .ref a0)]) rfl ?_
  refine z_sub (lv' := [(0, .ref a0), (1, .int (nI (bsV (fun j => fOf (fd j)) 0))), (2, .int (nI 0))]) [2, 1, 0] rfl ?_
  have lp4 : ∀ (N9 : Nat) (k : Nat) (hk : k ≤ n) (h9 : n - k < N9), zW p l e { frames := 12, cells := 0, slots := 0, locals := 196 } s m [.ref a0].toArray below meth c 3 G A (MQ below (zQ G (fun rv L1 F1 => rv = some (.int (nI (oW fd n))) ∧ L1 = L ∧ F1 = F) A) [.ref a0].toArray s 0 0 A) 0 0 L F 4 [(0, .ref a0), (1, .int (nI (bsV (fun j => fOf (fd j)) k))), (2, .int (nI k))] [] := by
    intro N9
    induction N9 with
    | zero => intro k hk h9; exact absurd h9 (Nat.not_lt_zero _)
    | succ N9 ih4 =>
      intro k hk hN4
      refine z_iload_n C dL_out_4 rfl 2 rfl ?_
      refine z_aload_n C dL_out_5 rfl 0 rfl ?_
      refine z_callV (As := []) (st := [.int (nI k)]) (mc := 0) (ms := 0) C hL0 hF0 rfl (c_X2_feeders l hlst G L F M a0 a1 a2 b4 b5 b6 b7 ad n now sl fd hco) (cwV 0 C.1.2.2.2.2 gL_out_X2_feeders rfl rfl rfl (by decide +kernel) ⟨Nat.le_of_ble_eq_true rfl, Nat.le_of_ble_eq_true rfl⟩) rfl (Nat.le_of_ble_eq_true rfl) ⟨Nat.le_of_ble_eq_true rfl, Nat.le_of_ble_eq_true rfl⟩ dL_out_6 (z_p ?_)
      refine z_stk (st' := [.int (nI n), .int (nI k)]) rfl ?_
      refine z_icmp_ge C 36 (((n : Nat) : Int) ≤ ((k : Nat) : Int)) (zi_le (zi_N (n := n) (by omega)) (zi_N (n := k) (by omega))) dL_out_9 (by decide) (fun c1_ => ?_) (fun c1_ => ?_)
      · -- 9 taken
        refine z_iload_n C dL_out_36 rfl 1 rfl ?_
        refine z_iret0 C rfl rfl (by decide) (by decide) dL_out_37 ?_
        obtain rfl : n = k := by omega
        exact ⟨rfl, rfl, rfl⟩
      · -- 9 not taken
        refine z_iload_n C dL_out_12 rfl 1 rfl ?_
        refine z_aload_n C dL_out_13 rfl 0 rfl ?_
        refine z_iload_n C dL_out_14 rfl 2 rfl ?_
        refine z_callV (As := [.int (nI k)]) (st := [.int (nI (bsV (fun j => fOf (fd j)) k))]) (mc := 0) (ms := 0) C hL0 hF0 rfl (m_X2_isCut l hlst G L F M a0 a1 a2 b4 b5 b6 b7 ad n now sl fd hco k (by omega)) (cwV 1 C.1.2.2.2.2 gL_out_X2_isCut rfl rfl rfl (by decide +kernel) ⟨Nat.le_of_ble_eq_true rfl, Nat.le_of_ble_eq_true rfl⟩) rfl (Nat.le_of_ble_eq_true rfl) ⟨Nat.le_of_ble_eq_true rfl, Nat.le_of_ble_eq_true rfl⟩ dL_out_15 (z_p ?_)
        refine z_stk (st' := [.int (nI (fOf (fd k))), .int (nI (bsV (fun j => fOf (fd j)) k))]) rfl ?_
        have u5 := (hok k (by omega)).2.2.2.2.1
        refine z_if_eq C 27 (((fOf (fd k) : Nat) : Int) = (0 : Int)) (zi_eq (zi_N (n := fOf (fd k)) (by omega)) zi_0) dL_out_18 (by decide) (fun c2_ => ?_) (fun c2_ => ?_)
        · -- 18 taken
          refine z_iconst C (nI 0) dL_out_27 (by decide) ?_
          refine z_ior C (nI (bsV (fun j => fOf (fd j)) (k + 1))) dL_out_28 (or_miss (f := fun j => fOf (fd j)) (k := k) (by show ¬ fOf (fd k) = 1; omega)) ?_
          refine z_istore_n (lv' := [(1, .int (nI (bsV (fun j => fOf (fd j)) (k + 1)))), (0, .ref a0), (2, .int (nI k))]) C dL_out_29 rfl (by decide) rfl ?_
          refine z_iinc (v := nI (k + 1)) (lv' := [(2, .int (nI (k + 1))), (1, .int (nI (bsV (fun j => fOf (fd j)) (k + 1)))), (0, .ref a0)]) C dL_out_30 2 rfl (nI_add k 1) (by decide) rfl ?_
          refine z_goto C 4 dL_out_33 (by decide) ?_
          refine z_sub (lv' := [(0, .ref a0), (1, .int (nI (bsV (fun j => fOf (fd j)) (k + 1)))), (2, .int (nI (k + 1)))]) [2, 1, 0] rfl ?_
          exact ih4 (k + 1) (by omega) (by omega)
        · -- 18 not taken
          refine z_iconst C (nI 1) dL_out_21 (by decide) ?_
          refine z_iload_n C dL_out_22 rfl 2 rfl ?_
          refine z_ishl C (nI (2 ^ k)) dL_out_23 (shl1 (n := k) (by omega)) ?_
          refine z_goto C 28 dL_out_24 (by decide) ?_
          refine z_ior C (nI (bsV (fun j => fOf (fd j)) (k + 1))) dL_out_28 (or_hit (f := fun j => fOf (fd j)) (k := k) (by show fOf (fd k) = 1; omega)) ?_
          refine z_istore_n (lv' := [(1, .int (nI (bsV (fun j => fOf (fd j)) (k + 1)))), (0, .ref a0), (2, .int (nI k))]) C dL_out_29 rfl (by decide) rfl ?_
          refine z_iinc (v := nI (k + 1)) (lv' := [(2, .int (nI (k + 1))), (1, .int (nI (bsV (fun j => fOf (fd j)) (k + 1)))), (0, .ref a0)]) C dL_out_30 2 rfl (nI_add k 1) (by decide) rfl ?_
          refine z_goto C 4 dL_out_33 (by decide) ?_
          refine z_sub (lv' := [(0, .ref a0), (1, .int (nI (bsV (fun j => fOf (fd j)) (k + 1)))), (2, .int (nI (k + 1)))]) [2, 1, 0] rfl ?_
          exact ih4 (k + 1) (by omega) (by omega)
  exact lp4 _ 0 (Nat.zero_le _) (Nat.lt_succ_self _)

set_option maxHeartbeats 4000000 in
set_option maxRecDepth 100000 in
theorem c_L_taken (l : Launch) (hlst : l.stackTraces = false) (G : zGt) (L : List Nat) (F : Nat → va_E) (M : Nat → Prop) (a0 n now sl : Nat) (fd : Nat → FdT) (hcl : zCl G M L F a0 n now sl fd) (sb : Nat) (hsb : sb < 2147483648) : zM l yL_taken wsL_taken 12 196 0 0 G L F [.ref a0, .int (nI sb)] (fun rv L1 F1 => rv = some (.int (nI (sT fd sb n))) ∧ L1 = L ∧ F1 = F) := by
  obtain ⟨a1, a2, b4, b5, b6, b7, ad, hco⟩ := hcl
  have hL0 := hco.1.1
  have hF0 := hco.2.1
  obtain ⟨hn, hnow, hsl⟩ := hco.2.2.2.2.2.2.2.1
  have hok : ∀ j, j < n → fOk now (fd j) := fun j hj => (hco.2.2.2.2.2.1 j hj).2.2.1
  refine z_of (cc := cL_taken) (nL := 4) (ret := (some .int)) (own := RL) hlst (by decide +kernel) rfl rfl (Nat.le_of_ble_eq_true rfl) ?_
  intro p e s m below meth c A hnm C
  refine z_lvs (lv' := [(0, .ref a0), (1, .int (nI sb))]) rfl ?_
  refine z_iconst C (nI 0) dL_taken_0 (by decide) ?_
  refine z_istore_n (lv' := [(2, .int (nI 0)), (0, .ref a0), (1, .int (nI sb))]) C dL_taken_1 rfl (by decide) rfl ?_
  refine z_iconst C (nI 0) dL_taken_2 (by decide) ?_
  refine z_istore_n (lv' := [(3, .int (nI 0)), (2, .int (nI 0)), (0, .ref a0), (1, .int (nI sb))]) C dL_taken_3 rfl (by decide) rfl ?_
  refine z_lvs (lv' := [(3, .int (nI 0)), (2, .int (nI (sT fd sb 0))), (0, .ref a0), (1, .int (nI sb))]) rfl ?_
  refine z_sub (lv' := [(0, .ref a0), (1, .int (nI sb)), (2, .int (nI (sT fd sb 0))), (3, .int (nI 0))]) [2, 3, 1, 0] rfl ?_
  have lp4 : ∀ (N9 : Nat) (k : Nat) (hk : k ≤ n) (h9 : n - k < N9), zW p l e { frames := 12, cells := 0, slots := 0, locals := 196 } s m [.ref a0, .int (nI sb)].toArray below meth c 4 G A (MQ below (zQ G (fun rv L1 F1 => rv = some (.int (nI (sT fd sb n))) ∧ L1 = L ∧ F1 = F) A) [.ref a0, .int (nI sb)].toArray s 0 0 A) 0 0 L F 4 [(0, .ref a0), (1, .int (nI sb)), (2, .int (nI (sT fd sb k))), (3, .int (nI k))] [] := by
    intro N9
    induction N9 with
    | zero => intro k hk h9; exact absurd h9 (Nat.not_lt_zero _)
    | succ N9 ih4 =>
      intro k hk hN4
      refine z_iload_n C dL_taken_4 rfl 3 rfl ?_
      refine z_aload_n C dL_taken_5 rfl 0 rfl ?_
      refine z_callV (As := []) (st := [.int (nI k)]) (mc := 0) (ms := 0) C hL0 hF0 rfl (c_X2_feeders l hlst G L F M a0 a1 a2 b4 b5 b6 b7 ad n now sl fd hco) (cwV 0 C.1.2.2.2.2 gL_taken_X2_feeders rfl rfl rfl (by decide +kernel) ⟨Nat.le_of_ble_eq_true rfl, Nat.le_of_ble_eq_true rfl⟩) rfl (Nat.le_of_ble_eq_true rfl) ⟨Nat.le_of_ble_eq_true rfl, Nat.le_of_ble_eq_true rfl⟩ dL_taken_6 (z_p ?_)
      refine z_stk (st' := [.int (nI n), .int (nI k)]) rfl ?_
      refine z_icmp_ge C 39 (((n : Nat) : Int) ≤ ((k : Nat) : Int)) (zi_le (zi_N (n := n) (by omega)) (zi_N (n := k) (by omega))) dL_taken_9 (by decide) (fun c1_ => ?_) (fun c1_ => ?_)
      · -- 9 taken
        refine z_iload_n C dL_taken_39 rfl 2 rfl ?_
        refine z_iret0 C rfl rfl (by decide) (by decide) dL_taken_40 ?_
        obtain rfl : n = k := by omega
        exact ⟨rfl, rfl, rfl⟩
      · -- 9 not taken
        have hbv := bitV_le sb k
        refine z_iload_n C dL_taken_12 rfl 2 rfl ?_
        refine z_iload_n C dL_taken_13 rfl 1 rfl ?_
        refine z_iload_n C dL_taken_14 rfl 3 rfl ?_
        refine z_ishr C (nI (sb / 2 ^ k)) dL_taken_15 (bit_of (by omega) (by omega)) ?_
        refine z_iconst C (nI 1) dL_taken_16 (by decide) ?_
        refine z_iand C (nI (bitV sb k)) dL_taken_17 (bit_and k (by omega)) ?_
        refine z_iconst C (nI 1) dL_taken_18 (by decide) ?_
        refine z_icmp_ne C 30 (((bitV sb k : Nat) : Int) = ((1 : Nat) : Int)) (zi_eq (zi_N (n := bitV sb k) (by omega)) (zi_N (n := 1) (by omega))) dL_taken_19 (by decide) (fun c2_ => ?_) (fun c2_ => ?_)
        · -- 19 taken
          refine z_iconst C (nI 0) dL_taken_30 (by decide) ?_
          refine z_iadd C (nI (sT fd sb k + 0)) dL_taken_31 (nI_add (sT fd sb k) 0) ?_
          refine z_istore_n (lv' := [(2, .int (nI (sT fd sb k + 0))), (0, .ref a0), (1, .int (nI sb)), (3, .int (nI k))]) C dL_taken_32 rfl (by decide) rfl ?_
          refine z_iinc (v := nI (k + 1)) (lv' := [(3, .int (nI (k + 1))), (2, .int (nI (sT fd sb k + 0))), (0, .ref a0), (1, .int (nI sb))]) C dL_taken_33 3 rfl (nI_add k 1) (by decide) rfl ?_
          refine z_goto C 4 dL_taken_36 (by decide) ?_
          refine z_lvs (lv' := [(3, .int (nI (k + 1))), (2, .int (nI (sT fd sb (k + 1)))), (0, .ref a0), (1, .int (nI sb))]) (by rw [sT_n (fd := fd) (s := sb) (k := k) (by omega)]) ?_
          refine z_sub (lv' := [(0, .ref a0), (1, .int (nI sb)), (2, .int (nI (sT fd sb (k + 1)))), (3, .int (nI (k + 1)))]) [2, 3, 1, 0] rfl ?_
          exact ih4 (k + 1) (by omega) (by omega)
        · -- 19 not taken
          refine z_aload_n C dL_taken_22 rfl 0 rfl ?_
          refine z_iload_n C dL_taken_23 rfl 3 rfl ?_
          refine z_callV (As := [.int (nI k)]) (st := [.int (nI (sT fd sb k))]) (mc := 0) (ms := 0) C hL0 hF0 rfl (m_X2_takes l hlst G L F M a0 a1 a2 b4 b5 b6 b7 ad n now sl fd hco k (by omega)) (cwV 1 C.1.2.2.2.2 gL_taken_X2_takes rfl rfl rfl (by decide +kernel) ⟨Nat.le_of_ble_eq_true rfl, Nat.le_of_ble_eq_true rfl⟩) rfl (Nat.le_of_ble_eq_true rfl) ⟨Nat.le_of_ble_eq_true rfl, Nat.le_of_ble_eq_true rfl⟩ dL_taken_24 (z_p ?_)
          refine z_stk (st' := [.int (nI (fTk (fd k))), .int (nI (sT fd sb k))]) rfl ?_
          have t9 := fTk_le (hok k (by omega))
          refine z_goto C 31 dL_taken_27 (by decide) ?_
          refine z_iadd C (nI (sT fd sb k + fTk (fd k))) dL_taken_31 (nI_add (sT fd sb k) (fTk (fd k))) ?_
          refine z_istore_n (lv' := [(2, .int (nI (sT fd sb k + fTk (fd k)))), (0, .ref a0), (1, .int (nI sb)), (3, .int (nI k))]) C dL_taken_32 rfl (by decide) rfl ?_
          refine z_iinc (v := nI (k + 1)) (lv' := [(3, .int (nI (k + 1))), (2, .int (nI (sT fd sb k + fTk (fd k)))), (0, .ref a0), (1, .int (nI sb))]) C dL_taken_33 3 rfl (nI_add k 1) (by decide) rfl ?_
          refine z_goto C 4 dL_taken_36 (by decide) ?_
          refine z_lvs (lv' := [(3, .int (nI (k + 1))), (2, .int (nI (sT fd sb (k + 1)))), (0, .ref a0), (1, .int (nI sb))]) (by rw [sT_1 (fd := fd) (s := sb) (k := k) (by omega)]) ?_
          refine z_sub (lv' := [(0, .ref a0), (1, .int (nI sb)), (2, .int (nI (sT fd sb (k + 1)))), (3, .int (nI (k + 1)))]) [2, 3, 1, 0] rfl ?_
          exact ih4 (k + 1) (by omega) (by omega)
  exact lp4 _ 0 (Nat.zero_le _) (Nat.lt_succ_self _)

set_option maxHeartbeats 4000000 in
set_option maxRecDepth 100000 in
theorem c_L_noneCold (l : Launch) (hlst : l.stackTraces = false) (G : zGt) (L : List Nat) (F : Nat → va_E) (M : Nat → Prop) (a0 n now sl : Nat) (fd : Nat → FdT) (hcl : zCl G M L F a0 n now sl fd) (hc : ∀ j, j < n → fCo (fd j) = 0) : zM l yL_noneCold wsL_noneCold 12 196 0 0 G L F [.ref a0] (fun rv L1 F1 => rv = some (.int (nI (1))) ∧ L1 = L ∧ F1 = F) := by
  obtain ⟨a1, a2, b4, b5, b6, b7, ad, hco⟩ := hcl
  have hL0 := hco.1.1
  have hF0 := hco.2.1
  obtain ⟨hn, hnow, hsl⟩ := hco.2.2.2.2.2.2.2.1
  have hok : ∀ j, j < n → fOk now (fd j) := fun j hj => (hco.2.2.2.2.2.1 j hj).2.2.1
  refine z_of (cc := cL_noneCold) (nL := 2) (ret := (some .boolean)) (own := RL) hlst (by decide +kernel) rfl rfl (Nat.le_of_ble_eq_true rfl) ?_
  intro p e s m below meth c A hnm C
  refine z_lvs (lv' := [(0, .ref a0)]) rfl ?_
  refine z_iconst C (nI 0) dL_noneCold_0 (by decide) ?_
  refine z_istore_n (lv' := [(1, .int (nI 0)), (0, .ref a0)]) C dL_noneCold_1 rfl (by decide) rfl ?_
  refine z_sub (lv' := [(0, .ref a0), (1, .int (nI 0))]) [1, 0] rfl ?_
  have lp2 : ∀ (N9 : Nat) (k : Nat) (hk : k ≤ n) (h9 : n - k < N9), zW p l e { frames := 12, cells := 0, slots := 0, locals := 196 } s m [.ref a0].toArray below meth c 2 G A (MQ below (zQ G (fun rv L1 F1 => rv = some (.int (nI (1))) ∧ L1 = L ∧ F1 = F) A) [.ref a0].toArray s 0 0 A) 0 0 L F 2 [(0, .ref a0), (1, .int (nI k))] [] := by
    intro N9
    induction N9 with
    | zero => intro k hk h9; exact absurd h9 (Nat.not_lt_zero _)
    | succ N9 ih2 =>
      intro k hk hN2
      refine z_iload_n C dL_noneCold_2 rfl 1 rfl ?_
      refine z_aload_n C dL_noneCold_3 rfl 0 rfl ?_
      refine z_callV (As := []) (st := [.int (nI k)]) (mc := 0) (ms := 0) C hL0 hF0 rfl (c_X2_feeders l hlst G L F M a0 a1 a2 b4 b5 b6 b7 ad n now sl fd hco) (cwV 0 C.1.2.2.2.2 gL_noneCold_X2_feeders rfl rfl rfl (by decide +kernel) ⟨Nat.le_of_ble_eq_true rfl, Nat.le_of_ble_eq_true rfl⟩) rfl (Nat.le_of_ble_eq_true rfl) ⟨Nat.le_of_ble_eq_true rfl, Nat.le_of_ble_eq_true rfl⟩ dL_noneCold_4 (z_p ?_)
      refine z_stk (st' := [.int (nI n), .int (nI k)]) rfl ?_
      refine z_icmp_ge C 26 (((n : Nat) : Int) ≤ ((k : Nat) : Int)) (zi_le (zi_N (n := n) (by omega)) (zi_N (n := k) (by omega))) dL_noneCold_7 (by decide) (fun c1_ => ?_) (fun c1_ => ?_)
      · -- 7 taken
        refine z_iconst C (nI 1) dL_noneCold_26 (by decide) ?_
        refine z_iret0 C rfl rfl (by decide) (by decide) dL_noneCold_27 ?_
        exact ⟨rfl, rfl, rfl⟩
      · -- 7 not taken
        refine z_aload_n C dL_noneCold_10 rfl 0 rfl ?_
        refine z_iload_n C dL_noneCold_11 rfl 1 rfl ?_
        refine z_callV (As := [.int (nI k)]) (st := []) (mc := 0) (ms := 0) C hL0 hF0 rfl (m_X2_cold l hlst G L F M a0 a1 a2 b4 b5 b6 b7 ad n now sl fd hco k (by omega)) (cwV 1 C.1.2.2.2.2 gL_noneCold_X2_cold rfl rfl rfl (by decide +kernel) ⟨Nat.le_of_ble_eq_true rfl, Nat.le_of_ble_eq_true rfl⟩) rfl (Nat.le_of_ble_eq_true rfl) ⟨Nat.le_of_ble_eq_true rfl, Nat.le_of_ble_eq_true rfl⟩ dL_noneCold_12 (z_p ?_)
        refine z_stk (st' := [.int (nI (fCo (fd k)))]) rfl ?_
        have u8 := (hok k (by omega)).2.2.2.2.2.2.2
        have hc9 := hc k (by omega)
        refine z_if_eq C 20 (((fCo (fd k) : Nat) : Int) = (0 : Int)) (zi_eq (zi_N (n := fCo (fd k)) (by omega)) zi_0) dL_noneCold_15 (by decide) (fun c2_ => ?_) (fun c2_ => absurd c2_ (by omega))
        refine z_iinc (v := nI (k + 1)) (lv' := [(1, .int (nI (k + 1))), (0, .ref a0)]) C dL_noneCold_20 1 rfl (nI_add k 1) (by decide) rfl ?_
        refine z_goto C 2 dL_noneCold_23 (by decide) ?_
        refine z_sub (lv' := [(0, .ref a0), (1, .int (nI (k + 1)))]) [1, 0] rfl ?_
        exact ih2 (k + 1) (by omega) (by omega)
  exact lp2 _ 0 (Nat.zero_le _) (Nat.lt_succ_self _)
