set_option maxRecDepth 100000 in
theorem hin_X3_hour_X3 : ∀ w ∈ u_ws RX3 TX3 11, w ∈ wsX3_hour := by decide +kernel
set_option maxHeartbeats 4000000 in
set_option maxRecDepth 100000 in
theorem c_X3_hour (l : Launch) (hlst : l.stackTraces = false) (G : zGt) (L : List Nat) (F : Nat → va_E) (m0 c0 c1 c2 c3 c4 c5 c6 : Nat) (n now sl thr : Nat) (g : Nat → FdT) (hmo : zMo G L F m0 c0 c1 c2 c3 c4 c5 c6 n now sl thr g)  : zM l yX3_hour wsX3_hour 1 24 0 0 G L F [.ref m0] (fun rv L1 F1 => rv = some (.int (nI now)) ∧ L1 = L ∧ zMo G L F1 m0 c0 c1 c2 c3 c4 c5 c6 n now sl 0 g ∧ (∀ b, b ≠ m0 → b ≠ c0 → b ≠ c1 → b ≠ c2 → b ≠ c3 → b ≠ c4 → b ≠ c5 → b ≠ c6 → F1 b = F b)) := by
  obtain ⟨⟨hLm, hLc0, hLc1, hLc2, hLc3, hLc4, hLc5, hLc6⟩, ⟨hFm, hFc0, hFc1, hFc2, hFc3, hFc4, hFc5, hFc6⟩, hNc, hGg, ⟨hn, hnow, hsl, hthr⟩⟩ := id hmo
  refine z_of (cc := cX3_hour) (nL := 1) (ret := (some .int)) (own := RX3) hlst (by decide +kernel) rfl rfl (Nat.le_of_ble_eq_true rfl) ?_
  intro p e s m below meth c A hnm C
  refine z_lvs (lv' := [(0, .ref m0)]) rfl ?_
  refine z_aload_n C dX3_hour_0 rfl 0 rfl ?_
  refine z_iconst C (nI 0) dX3_hour_1 (by decide) ?_
  refine z_put (ref := "ShedwheelModel") (v := .int (nI 0)) (fs' := [.ref c0, .ref c1, .ref c2, .ref c3, .ref c4, .ref c5, .ref c6, .int (nI n), .int (nI sl), .int (nI now), .int (nI 0)]) C hin_X3_hour_X3 tyX3 tyX3_ok nmX3 hLm hFm rfl 10 (by decide) (by decide +kernel) (fun _ h9 => h9) rfl rfl rfl (Nat.le_of_ble_eq_true rfl) rfl dX3_hour_2 (fun F1_ h2_ k3_ => ?_)
  have h4_ : F1_ c0 = .inl (G.2.1, 12, .inl (fun i9 => nI (fMw (g i9)))) := (k3_ c0 (zne hFc0 hFm rfl)).trans hFc0
  have h5_ : F1_ c1 = .inl (G.2.1, 12, .inl (fun i9 => nI (fCr (g i9)))) := (k3_ c1 (zne hFc1 hFm rfl)).trans hFc1
  have h6_ : F1_ c2 = .inl (G.2.1, 12, .inl (fun i9 => nI (fSg (g i9)))) := (k3_ c2 (zne hFc2 hFm rfl)).trans hFc2
  have h7_ : F1_ c3 = .inl (G.2.1, 12, .inl (fun i9 => nI (fOf (g i9)))) := (k3_ c3 (zne hFc3 hFm rfl)).trans hFc3
  have h8_ : F1_ c4 = .inl (G.2.1, 12, .inl (fun i9 => nI (fHo (g i9)))) := (k3_ c4 (zne hFc4 hFm rfl)).trans hFc4
  have h9_ : F1_ c5 = .inl (G.2.1, 12, .inl (fun i9 => nI (fTh (g i9)))) := (k3_ c5 (zne hFc5 hFm rfl)).trans hFc5
  have h10_ : F1_ c6 = .inl (G.2.1, 12, .inl (fun i9 => nI (fCo (g i9)))) := (k3_ c6 (zne hFc6 hFm rfl)).trans hFc6
  have kc11_ : ∀ b, b ≠ m0 → F1_ b = F b := fun b q0 => k3_ b q0
  have hmoT : zMo G L F1_ m0 c0 c1 c2 c3 c4 c5 c6 n now sl 0 g := ⟨⟨hLm, hLc0, hLc1, hLc2, hLc3, hLc4, hLc5, hLc6⟩, ⟨h2_, h4_, h5_, h6_, h7_, h8_, h9_, h10_⟩, hNc, hGg, ⟨hn, hnow, hsl, by omega⟩⟩
  refine z_aload_n C dX3_hour_5 rfl 0 rfl ?_
  refine z_get (ref := "ShedwheelModel") (v := .int (nI now)) C hin_X3_hour_X3 hLm h2_ rfl 9 (by decide) (by decide +kernel) (fun _ h9 => h9) rfl dX3_hour_6 ?_
  refine z_iret0 C rfl rfl (by decide) (by decide) dX3_hour_9 ?_
  exact ⟨rfl, rfl, hmoT, fun b q0 q1 q2 q3 q4 q5 q6 q7 => kc11_ b q0⟩

set_option maxRecDepth 100000 in
theorem hin_X3_feeders_X3 : ∀ w ∈ u_ws RX3 TX3 11, w ∈ wsX3_feeders := by decide +kernel
set_option maxHeartbeats 4000000 in
set_option maxRecDepth 100000 in
theorem c_X3_feeders (l : Launch) (hlst : l.stackTraces = false) (G : zGt) (L : List Nat) (F : Nat → va_E) (m0 c0 c1 c2 c3 c4 c5 c6 : Nat) (n now sl thr : Nat) (g : Nat → FdT) (hmo : zMo G L F m0 c0 c1 c2 c3 c4 c5 c6 n now sl thr g)  : zM l yX3_feeders wsX3_feeders 1 24 0 0 G L F [.ref m0] (fun rv L1 F1 => rv = some (.int (nI n)) ∧ L1 = L ∧ zMo G L F1 m0 c0 c1 c2 c3 c4 c5 c6 n now sl 0 g ∧ (∀ b, b ≠ m0 → b ≠ c0 → b ≠ c1 → b ≠ c2 → b ≠ c3 → b ≠ c4 → b ≠ c5 → b ≠ c6 → F1 b = F b)) := by
  obtain ⟨⟨hLm, hLc0, hLc1, hLc2, hLc3, hLc4, hLc5, hLc6⟩, ⟨hFm, hFc0, hFc1, hFc2, hFc3, hFc4, hFc5, hFc6⟩, hNc, hGg, ⟨hn, hnow, hsl, hthr⟩⟩ := id hmo
  refine z_of (cc := cX3_feeders) (nL := 1) (ret := (some .int)) (own := RX3) hlst (by decide +kernel) rfl rfl (Nat.le_of_ble_eq_true rfl) ?_
  intro p e s m below meth c A hnm C
  refine z_lvs (lv' := [(0, .ref m0)]) rfl ?_
  refine z_aload_n C dX3_feeders_0 rfl 0 rfl ?_
  refine z_iconst C (nI 0) dX3_feeders_1 (by decide) ?_
  refine z_put (ref := "ShedwheelModel") (v := .int (nI 0)) (fs' := [.ref c0, .ref c1, .ref c2, .ref c3, .ref c4, .ref c5, .ref c6, .int (nI n), .int (nI sl), .int (nI now), .int (nI 0)]) C hin_X3_feeders_X3 tyX3 tyX3_ok nmX3 hLm hFm rfl 10 (by decide) (by decide +kernel) (fun _ h9 => h9) rfl rfl rfl (Nat.le_of_ble_eq_true rfl) rfl dX3_feeders_2 (fun F1_ h2_ k3_ => ?_)
  have h4_ : F1_ c0 = .inl (G.2.1, 12, .inl (fun i9 => nI (fMw (g i9)))) := (k3_ c0 (zne hFc0 hFm rfl)).trans hFc0
  have h5_ : F1_ c1 = .inl (G.2.1, 12, .inl (fun i9 => nI (fCr (g i9)))) := (k3_ c1 (zne hFc1 hFm rfl)).trans hFc1
  have h6_ : F1_ c2 = .inl (G.2.1, 12, .inl (fun i9 => nI (fSg (g i9)))) := (k3_ c2 (zne hFc2 hFm rfl)).trans hFc2
  have h7_ : F1_ c3 = .inl (G.2.1, 12, .inl (fun i9 => nI (fOf (g i9)))) := (k3_ c3 (zne hFc3 hFm rfl)).trans hFc3
  have h8_ : F1_ c4 = .inl (G.2.1, 12, .inl (fun i9 => nI (fHo (g i9)))) := (k3_ c4 (zne hFc4 hFm rfl)).trans hFc4
  have h9_ : F1_ c5 = .inl (G.2.1, 12, .inl (fun i9 => nI (fTh (g i9)))) := (k3_ c5 (zne hFc5 hFm rfl)).trans hFc5
  have h10_ : F1_ c6 = .inl (G.2.1, 12, .inl (fun i9 => nI (fCo (g i9)))) := (k3_ c6 (zne hFc6 hFm rfl)).trans hFc6
  have kc11_ : ∀ b, b ≠ m0 → F1_ b = F b := fun b q0 => k3_ b q0
  have hmoT : zMo G L F1_ m0 c0 c1 c2 c3 c4 c5 c6 n now sl 0 g := ⟨⟨hLm, hLc0, hLc1, hLc2, hLc3, hLc4, hLc5, hLc6⟩, ⟨h2_, h4_, h5_, h6_, h7_, h8_, h9_, h10_⟩, hNc, hGg, ⟨hn, hnow, hsl, by omega⟩⟩
  refine z_aload_n C dX3_feeders_5 rfl 0 rfl ?_
  refine z_get (ref := "ShedwheelModel") (v := .int (nI n)) C hin_X3_feeders_X3 hLm h2_ rfl 7 (by decide) (by decide +kernel) (fun _ h9 => h9) rfl dX3_feeders_6 ?_
  refine z_iret0 C rfl rfl (by decide) (by decide) dX3_feeders_9 ?_
  exact ⟨rfl, rfl, hmoT, fun b q0 q1 q2 q3 q4 q5 q6 q7 => kc11_ b q0⟩

set_option maxRecDepth 100000 in
theorem hin_X3_load_X3 : ∀ w ∈ u_ws RX3 TX3 11, w ∈ wsX3_load := by decide +kernel
set_option maxHeartbeats 4000000 in
set_option maxRecDepth 100000 in
theorem c_X3_load (l : Launch) (hlst : l.stackTraces = false) (G : zGt) (L : List Nat) (F : Nat → va_E) (m0 c0 c1 c2 c3 c4 c5 c6 : Nat) (n now sl thr : Nat) (g : Nat → FdT) (hmo : zMo G L F m0 c0 c1 c2 c3 c4 c5 c6 n now sl thr g)  : zM l yX3_load wsX3_load 3 67 0 0 G L F [.ref m0] (fun rv L1 F1 => rv = some (.int (nI (smV (fun j => fTk (g j)) n))) ∧ L1 = L ∧ zMo G L F1 m0 c0 c1 c2 c3 c4 c5 c6 n now sl 0 g ∧ (∀ b, b ≠ m0 → b ≠ c0 → b ≠ c1 → b ≠ c2 → b ≠ c3 → b ≠ c4 → b ≠ c5 → b ≠ c6 → F1 b = F b)) := by
  obtain ⟨⟨hLm, hLc0, hLc1, hLc2, hLc3, hLc4, hLc5, hLc6⟩, ⟨hFm, hFc0, hFc1, hFc2, hFc3, hFc4, hFc5, hFc6⟩, hNc, hGg, ⟨hn, hnow, hsl, hthr⟩⟩ := id hmo
  refine z_of (cc := cX3_load) (nL := 3) (ret := (some .int)) (own := RX3) hlst (by decide +kernel) rfl rfl (Nat.le_of_ble_eq_true rfl) ?_
  intro p e s m below meth c A hnm C
  refine z_lvs (lv' := [(0, .ref m0)]) rfl ?_
  refine z_aload_n C dX3_load_0 rfl 0 rfl ?_
  refine z_iconst C (nI 0) dX3_load_1 (by decide) ?_
  refine z_put (ref := "ShedwheelModel") (v := .int (nI 0)) (fs' := [.ref c0, .ref c1, .ref c2, .ref c3, .ref c4, .ref c5, .ref c6, .int (nI n), .int (nI sl), .int (nI now), .int (nI 0)]) C hin_X3_load_X3 tyX3 tyX3_ok nmX3 hLm hFm rfl 10 (by decide) (by decide +kernel) (fun _ h9 => h9) rfl rfl rfl (Nat.le_of_ble_eq_true rfl) rfl dX3_load_2 (fun F1_ h2_ k3_ => ?_)
  have h4_ : F1_ c0 = .inl (G.2.1, 12, .inl (fun i9 => nI (fMw (g i9)))) := (k3_ c0 (zne hFc0 hFm rfl)).trans hFc0
  have h5_ : F1_ c1 = .inl (G.2.1, 12, .inl (fun i9 => nI (fCr (g i9)))) := (k3_ c1 (zne hFc1 hFm rfl)).trans hFc1
  have h6_ : F1_ c2 = .inl (G.2.1, 12, .inl (fun i9 => nI (fSg (g i9)))) := (k3_ c2 (zne hFc2 hFm rfl)).trans hFc2
  have h7_ : F1_ c3 = .inl (G.2.1, 12, .inl (fun i9 => nI (fOf (g i9)))) := (k3_ c3 (zne hFc3 hFm rfl)).trans hFc3
  have h8_ : F1_ c4 = .inl (G.2.1, 12, .inl (fun i9 => nI (fHo (g i9)))) := (k3_ c4 (zne hFc4 hFm rfl)).trans hFc4
  have h9_ : F1_ c5 = .inl (G.2.1, 12, .inl (fun i9 => nI (fTh (g i9)))) := (k3_ c5 (zne hFc5 hFm rfl)).trans hFc5
  have h10_ : F1_ c6 = .inl (G.2.1, 12, .inl (fun i9 => nI (fCo (g i9)))) := (k3_ c6 (zne hFc6 hFm rfl)).trans hFc6
  have kc11_ : ∀ b, b ≠ m0 → F1_ b = F b := fun b q0 => k3_ b q0
  have hmoT : zMo G L F1_ m0 c0 c1 c2 c3 c4 c5 c6 n now sl 0 g := ⟨⟨hLm, hLc0, hLc1, hLc2, hLc3, hLc4, hLc5, hLc6⟩, ⟨h2_, h4_, h5_, h6_, h7_, h8_, h9_, h10_⟩, hNc, hGg, ⟨hn, hnow, hsl, by omega⟩⟩
  refine z_iconst C (nI 0) dX3_load_5 (by decide) ?_
  refine z_istore_n (lv' := [(1, .int (nI 0)), (0, .ref m0)]) C dX3_load_6 rfl (by decide) rfl ?_
  refine z_iconst C (nI 0) dX3_load_7 (by decide) ?_
  refine z_istore_n (lv' := [(2, .int (nI 0)), (1, .int (nI 0)), (0, .ref m0)]) C dX3_load_8 rfl (by decide) rfl ?_
  refine z_lvs (lv' := [(2, .int (nI 0)), (1, .int (nI (smV (fun j => fTk (g j)) 0))), (0, .ref m0)]) rfl ?_
  refine z_sub (lv' := [(0, .ref m0), (1, .int (nI (smV (fun j => fTk (g j)) 0))), (2, .int (nI 0))]) [2, 1, 0] rfl ?_
  have lp9 : ∀ (N9 : Nat) (k : Nat) (hk : k ≤ n) (h9 : n - k < N9), zW p l e { frames := 3, cells := 0, slots := 0, locals := 67 } s m [.ref m0].toArray below meth c 3 G A (MQ below (zQ G (fun rv L1 F1 => rv = some (.int (nI (smV (fun j => fTk (g j)) n))) ∧ L1 = L ∧ zMo G L F1 m0 c0 c1 c2 c3 c4 c5 c6 n now sl 0 g ∧ (∀ b, b ≠ m0 → b ≠ c0 → b ≠ c1 → b ≠ c2 → b ≠ c3 → b ≠ c4 → b ≠ c5 → b ≠ c6 → F1 b = F b)) A) [.ref m0].toArray s 0 0 A) 0 0 L F1_ 9 [(0, .ref m0), (1, .int (nI (smV (fun j => fTk (g j)) k))), (2, .int (nI k))] [] := by
    intro N9
    induction N9 with
    | zero => intro k hk h9; exact absurd h9 (Nat.not_lt_zero _)
    | succ N9 ih9 =>
      intro k hk hN9
      refine z_iload_n C dX3_load_9 rfl 2 rfl ?_
      refine z_aload_n C dX3_load_10 rfl 0 rfl ?_
      refine z_get (ref := "ShedwheelModel") (v := .int (nI n)) C hin_X3_load_X3 hLm h2_ rfl 7 (by decide) (by decide +kernel) (fun _ h9 => h9) rfl dX3_load_11 ?_
      refine z_icmp_ge C 31 (((n : Nat) : Int) ≤ ((k : Nat) : Int)) (zi_le (zi_N (n := n) (by omega)) (zi_N (n := k) (by omega))) dX3_load_14 (by decide) (fun c12_ => ?_) (fun c12_ => ?_)
      · -- 14 taken
        refine z_iload_n C dX3_load_31 rfl 1 rfl ?_
        refine z_iret0 C rfl rfl (by decide) (by decide) dX3_load_32 ?_
        obtain rfl : n = k := by omega
        exact ⟨rfl, rfl, hmoT, fun b q0 q1 q2 q3 q4 q5 q6 q7 => kc11_ b q0⟩
      · -- 14 not taken
        refine z_iload_n C dX3_load_17 rfl 1 rfl ?_
        refine z_aload_n C dX3_load_18 rfl 0 rfl ?_
        refine z_iload_n C dX3_load_19 rfl 2 rfl ?_
        refine z_callV (As := [.int (nI k)]) (st := [.int (nI (smV (fun j => fTk (g j)) k))]) (mc := 0) (ms := 0) C hLm h2_ rfl (c_X3_takesOf l hlst G L F1_ m0 c0 c1 c2 c3 c4 c5 c6 n now sl 0 g hmoT k (by omega)) (cwV 1 C.1.2.2.2.2 gX3_load_X3_takesOf rfl rfl rfl (by decide +kernel) ⟨Nat.le_of_ble_eq_true rfl, Nat.le_of_ble_eq_true rfl⟩) rfl (Nat.le_of_ble_eq_true rfl) ⟨Nat.le_of_ble_eq_true rfl, Nat.le_of_ble_eq_true rfl⟩ dX3_load_20 (z_p ?_)
        refine z_stk (st' := [.int (nI (fTk (g k))), .int (nI (smV (fun j => fTk (g j)) k))]) rfl ?_
        refine z_iadd C (nI (smV (fun j => fTk (g j)) k + fTk (g k))) dX3_load_23 (nI_add (smV (fun j => fTk (g j)) k) (fTk (g k))) ?_
        refine z_istore_n (lv' := [(1, .int (nI (smV (fun j => fTk (g j)) k + fTk (g k)))), (0, .ref m0), (2, .int (nI k))]) C dX3_load_24 rfl (by decide) rfl ?_
        refine z_iinc (v := nI (k + 1)) (lv' := [(2, .int (nI (k + 1))), (1, .int (nI (smV (fun j => fTk (g j)) k + fTk (g k)))), (0, .ref m0)]) C dX3_load_25 2 rfl (nI_add k 1) (by decide) rfl ?_
        refine z_goto C 9 dX3_load_28 (by decide) ?_
        refine z_lvs (lv' := [(2, .int (nI (k + 1))), (1, .int (nI (smV (fun j => fTk (g j)) (k + 1)))), (0, .ref m0)]) rfl ?_
        refine z_sub (lv' := [(0, .ref m0), (1, .int (nI (smV (fun j => fTk (g j)) (k + 1)))), (2, .int (nI (k + 1)))]) [2, 1, 0] rfl ?_
        exact ih9 (k + 1) (by omega) (by omega)
  exact lp9 _ 0 (Nat.zero_le _) (Nat.lt_succ_self _)

set_option maxRecDepth 100000 in
theorem hin_X3_loadRestored_X3 : ∀ w ∈ u_ws RX3 TX3 11, w ∈ wsX3_loadRestored := by decide +kernel
set_option maxHeartbeats 4000000 in
set_option maxRecDepth 100000 in
theorem c_X3_loadRestored (l : Launch) (hlst : l.stackTraces = false) (G : zGt) (L : List Nat) (F : Nat → va_E) (m0 c0 c1 c2 c3 c4 c5 c6 : Nat) (n now sl thr : Nat) (g : Nat → FdT) (hmo : zMo G L F m0 c0 c1 c2 c3 c4 c5 c6 n now sl thr g)  : zM l yX3_loadRestored wsX3_loadRestored 4 88 0 0 G L F [.ref m0] (fun rv L1 F1 => rv = some (.int (nI (smV (fun j => fRs (g j)) n))) ∧ L1 = L ∧ zMo G L F1 m0 c0 c1 c2 c3 c4 c5 c6 n now sl 0 g ∧ (∀ b, b ≠ m0 → b ≠ c0 → b ≠ c1 → b ≠ c2 → b ≠ c3 → b ≠ c4 → b ≠ c5 → b ≠ c6 → F1 b = F b)) := by
  obtain ⟨⟨hLm, hLc0, hLc1, hLc2, hLc3, hLc4, hLc5, hLc6⟩, ⟨hFm, hFc0, hFc1, hFc2, hFc3, hFc4, hFc5, hFc6⟩, hNc, hGg, ⟨hn, hnow, hsl, hthr⟩⟩ := id hmo
  refine z_of (cc := cX3_loadRestored) (nL := 3) (ret := (some .int)) (own := RX3) hlst (by decide +kernel) rfl rfl (Nat.le_of_ble_eq_true rfl) ?_
  intro p e s m below meth c A hnm C
  refine z_lvs (lv' := [(0, .ref m0)]) rfl ?_
  refine z_aload_n C dX3_loadRestored_0 rfl 0 rfl ?_
  refine z_iconst C (nI 0) dX3_loadRestored_1 (by decide) ?_
  refine z_put (ref := "ShedwheelModel") (v := .int (nI 0)) (fs' := [.ref c0, .ref c1, .ref c2, .ref c3, .ref c4, .ref c5, .ref c6, .int (nI n), .int (nI sl), .int (nI now), .int (nI 0)]) C hin_X3_loadRestored_X3 tyX3 tyX3_ok nmX3 hLm hFm rfl 10 (by decide) (by decide +kernel) (fun _ h9 => h9) rfl rfl rfl (Nat.le_of_ble_eq_true rfl) rfl dX3_loadRestored_2 (fun F1_ h2_ k3_ => ?_)
  have h4_ : F1_ c0 = .inl (G.2.1, 12, .inl (fun i9 => nI (fMw (g i9)))) := (k3_ c0 (zne hFc0 hFm rfl)).trans hFc0
  have h5_ : F1_ c1 = .inl (G.2.1, 12, .inl (fun i9 => nI (fCr (g i9)))) := (k3_ c1 (zne hFc1 hFm rfl)).trans hFc1
  have h6_ : F1_ c2 = .inl (G.2.1, 12, .inl (fun i9 => nI (fSg (g i9)))) := (k3_ c2 (zne hFc2 hFm rfl)).trans hFc2
  have h7_ : F1_ c3 = .inl (G.2.1, 12, .inl (fun i9 => nI (fOf (g i9)))) := (k3_ c3 (zne hFc3 hFm rfl)).trans hFc3
  have h8_ : F1_ c4 = .inl (G.2.1, 12, .inl (fun i9 => nI (fHo (g i9)))) := (k3_ c4 (zne hFc4 hFm rfl)).trans hFc4
  have h9_ : F1_ c5 = .inl (G.2.1, 12, .inl (fun i9 => nI (fTh (g i9)))) := (k3_ c5 (zne hFc5 hFm rfl)).trans hFc5
  have h10_ : F1_ c6 = .inl (G.2.1, 12, .inl (fun i9 => nI (fCo (g i9)))) := (k3_ c6 (zne hFc6 hFm rfl)).trans hFc6
  have kc11_ : ∀ b, b ≠ m0 → F1_ b = F b := fun b q0 => k3_ b q0
  have hmoT : zMo G L F1_ m0 c0 c1 c2 c3 c4 c5 c6 n now sl 0 g := ⟨⟨hLm, hLc0, hLc1, hLc2, hLc3, hLc4, hLc5, hLc6⟩, ⟨h2_, h4_, h5_, h6_, h7_, h8_, h9_, h10_⟩, hNc, hGg, ⟨hn, hnow, hsl, by omega⟩⟩
  refine z_iconst C (nI 0) dX3_loadRestored_5 (by decide) ?_
  refine z_istore_n (lv' := [(1, .int (nI 0)), (0, .ref m0)]) C dX3_loadRestored_6 rfl (by decide) rfl ?_
  refine z_iconst C (nI 0) dX3_loadRestored_7 (by decide) ?_
  refine z_istore_n (lv' := [(2, .int (nI 0)), (1, .int (nI 0)), (0, .ref m0)]) C dX3_loadRestored_8 rfl (by decide) rfl ?_
  refine z_lvs (lv' := [(2, .int (nI 0)), (1, .int (nI (smV (fun j => fRs (g j)) 0))), (0, .ref m0)]) rfl ?_
  refine z_sub (lv' := [(0, .ref m0), (1, .int (nI (smV (fun j => fRs (g j)) 0))), (2, .int (nI 0))]) [2, 1, 0] rfl ?_
  have lp9 : ∀ (N9 : Nat) (k : Nat) (hk : k ≤ n) (h9 : n - k < N9), zW p l e { frames := 4, cells := 0, slots := 0, locals := 88 } s m [.ref m0].toArray below meth c 3 G A (MQ below (zQ G (fun rv L1 F1 => rv = some (.int (nI (smV (fun j => fRs (g j)) n))) ∧ L1 = L ∧ zMo G L F1 m0 c0 c1 c2 c3 c4 c5 c6 n now sl 0 g ∧ (∀ b, b ≠ m0 → b ≠ c0 → b ≠ c1 → b ≠ c2 → b ≠ c3 → b ≠ c4 → b ≠ c5 → b ≠ c6 → F1 b = F b)) A) [.ref m0].toArray s 0 0 A) 0 0 L F1_ 9 [(0, .ref m0), (1, .int (nI (smV (fun j => fRs (g j)) k))), (2, .int (nI k))] [] := by
    intro N9
    induction N9 with
    | zero => intro k hk h9; exact absurd h9 (Nat.not_lt_zero _)
    | succ N9 ih9 =>
      intro k hk hN9
      refine z_iload_n C dX3_loadRestored_9 rfl 2 rfl ?_
      refine z_aload_n C dX3_loadRestored_10 rfl 0 rfl ?_
      refine z_get (ref := "ShedwheelModel") (v := .int (nI n)) C hin_X3_loadRestored_X3 hLm h2_ rfl 7 (by decide) (by decide +kernel) (fun _ h9 => h9) rfl dX3_loadRestored_11 ?_
      refine z_icmp_ge C 31 (((n : Nat) : Int) ≤ ((k : Nat) : Int)) (zi_le (zi_N (n := n) (by omega)) (zi_N (n := k) (by omega))) dX3_loadRestored_14 (by decide) (fun c12_ => ?_) (fun c12_ => ?_)
      · -- 14 taken
        refine z_iload_n C dX3_loadRestored_31 rfl 1 rfl ?_
        refine z_iret0 C rfl rfl (by decide) (by decide) dX3_loadRestored_32 ?_
        obtain rfl : n = k := by omega
        exact ⟨rfl, rfl, hmoT, fun b q0 q1 q2 q3 q4 q5 q6 q7 => kc11_ b q0⟩
      · -- 14 not taken
        refine z_iload_n C dX3_loadRestored_17 rfl 1 rfl ?_
        refine z_aload_n C dX3_loadRestored_18 rfl 0 rfl ?_
        refine z_iload_n C dX3_loadRestored_19 rfl 2 rfl ?_
        refine z_callV (As := [.int (nI k)]) (st := [.int (nI (smV (fun j => fRs (g j)) k))]) (mc := 0) (ms := 0) C hLm h2_ rfl (c_X3_restoredOf l hlst G L F1_ m0 c0 c1 c2 c3 c4 c5 c6 n now sl 0 g hmoT k (by omega)) (cwV 1 C.1.2.2.2.2 gX3_loadRestored_X3_restoredOf rfl rfl rfl (by decide +kernel) ⟨Nat.le_of_ble_eq_true rfl, Nat.le_of_ble_eq_true rfl⟩) rfl (Nat.le_of_ble_eq_true rfl) ⟨Nat.le_of_ble_eq_true rfl, Nat.le_of_ble_eq_true rfl⟩ dX3_loadRestored_20 (z_p ?_)
        refine z_stk (st' := [.int (nI (fRs (g k))), .int (nI (smV (fun j => fRs (g j)) k))]) rfl ?_
        refine z_iadd C (nI (smV (fun j => fRs (g j)) k + fRs (g k))) dX3_loadRestored_23 (nI_add (smV (fun j => fRs (g j)) k) (fRs (g k))) ?_
        refine z_istore_n (lv' := [(1, .int (nI (smV (fun j => fRs (g j)) k + fRs (g k)))), (0, .ref m0), (2, .int (nI k))]) C dX3_loadRestored_24 rfl (by decide) rfl ?_
        refine z_iinc (v := nI (k + 1)) (lv' := [(2, .int (nI (k + 1))), (1, .int (nI (smV (fun j => fRs (g j)) k + fRs (g k)))), (0, .ref m0)]) C dX3_loadRestored_25 2 rfl (nI_add k 1) (by decide) rfl ?_
        refine z_goto C 9 dX3_loadRestored_28 (by decide) ?_
        refine z_lvs (lv' := [(2, .int (nI (k + 1))), (1, .int (nI (smV (fun j => fRs (g j)) (k + 1)))), (0, .ref m0)]) rfl ?_
        refine z_sub (lv' := [(0, .ref m0), (1, .int (nI (smV (fun j => fRs (g j)) (k + 1)))), (2, .int (nI (k + 1)))]) [2, 1, 0] rfl ?_
        exact ih9 (k + 1) (by omega) (by omega)
  exact lp9 _ 0 (Nat.zero_le _) (Nat.lt_succ_self _)

set_option maxRecDepth 100000 in
theorem hin_X3_isCut_X3 : ∀ w ∈ u_ws RX3 TX3 11, w ∈ wsX3_isCut := by decide +kernel
set_option maxHeartbeats 4000000 in
set_option maxRecDepth 100000 in
theorem c_X3_isCut (l : Launch) (hlst : l.stackTraces = false) (G : zGt) (L : List Nat) (F : Nat → va_E) (m0 c0 c1 c2 c3 c4 c5 c6 : Nat) (n now sl thr : Nat) (g : Nat → FdT) (hmo : zMo G L F m0 c0 c1 c2 c3 c4 c5 c6 n now sl thr g) (x : Int32) : zM l yX3_isCut wsX3_isCut 3 67 0 0 G L F [.ref m0, .int x] (fun rv L1 F1 => ∃ r : Int32, rv = some (.int r) ∧ L1 = L ∧ (∀ b, b ≠ m0 → b ≠ c0 → b ≠ c1 → b ≠ c2 → b ≠ c3 → b ≠ c4 → b ≠ c5 → b ≠ c6 → F1 b = F b) ∧ ((∃ k : Nat, x = nI k ∧ k < n ∧ r = nI (fOf (g k)) ∧ zMo G L F1 m0 c0 c1 c2 c3 c4 c5 c6 n now sl 0 g) ∨ (¬ zIx n x ∧ zMo G L F1 m0 c0 c1 c2 c3 c4 c5 c6 n now sl 1 g))) := by
  obtain ⟨⟨hLm, hLc0, hLc1, hLc2, hLc3, hLc4, hLc5, hLc6⟩, ⟨hFm, hFc0, hFc1, hFc2, hFc3, hFc4, hFc5, hFc6⟩, hNc, hGg, ⟨hn, hnow, hsl, hthr⟩⟩ := id hmo
  refine z_of (cc := cX3_isCut) (nL := 2) (ret := (some .boolean)) (own := RX3) hlst (by decide +kernel) rfl rfl (Nat.le_of_ble_eq_true rfl) ?_
  intro p e s m below meth c A hnm C
  refine z_lvs (lv' := [(0, .ref m0), (1, .int x)]) rfl ?_
  refine z_aload_n C dX3_isCut_0 rfl 0 rfl ?_
  refine z_iconst C (nI 0) dX3_isCut_1 (by decide) ?_
  refine z_put (ref := "ShedwheelModel") (v := .int (nI 0)) (fs' := [.ref c0, .ref c1, .ref c2, .ref c3, .ref c4, .ref c5, .ref c6, .int (nI n), .int (nI sl), .int (nI now), .int (nI 0)]) C hin_X3_isCut_X3 tyX3 tyX3_ok nmX3 hLm hFm rfl 10 (by decide) (by decide +kernel) (fun _ h9 => h9) rfl rfl rfl (Nat.le_of_ble_eq_true rfl) rfl dX3_isCut_2 (fun F1_ h2_ k3_ => ?_)
  have h4_ : F1_ c0 = .inl (G.2.1, 12, .inl (fun i9 => nI (fMw (g i9)))) := (k3_ c0 (zne hFc0 hFm rfl)).trans hFc0
  have h5_ : F1_ c1 = .inl (G.2.1, 12, .inl (fun i9 => nI (fCr (g i9)))) := (k3_ c1 (zne hFc1 hFm rfl)).trans hFc1
  have h6_ : F1_ c2 = .inl (G.2.1, 12, .inl (fun i9 => nI (fSg (g i9)))) := (k3_ c2 (zne hFc2 hFm rfl)).trans hFc2
  have h7_ : F1_ c3 = .inl (G.2.1, 12, .inl (fun i9 => nI (fOf (g i9)))) := (k3_ c3 (zne hFc3 hFm rfl)).trans hFc3
  have h8_ : F1_ c4 = .inl (G.2.1, 12, .inl (fun i9 => nI (fHo (g i9)))) := (k3_ c4 (zne hFc4 hFm rfl)).trans hFc4
  have h9_ : F1_ c5 = .inl (G.2.1, 12, .inl (fun i9 => nI (fTh (g i9)))) := (k3_ c5 (zne hFc5 hFm rfl)).trans hFc5
  have h10_ : F1_ c6 = .inl (G.2.1, 12, .inl (fun i9 => nI (fCo (g i9)))) := (k3_ c6 (zne hFc6 hFm rfl)).trans hFc6
  have kc11_ : ∀ b, b ≠ m0 → F1_ b = F b := fun b q0 => k3_ b q0
  have hmoT : zMo G L F1_ m0 c0 c1 c2 c3 c4 c5 c6 n now sl 0 g := ⟨⟨hLm, hLc0, hLc1, hLc2, hLc3, hLc4, hLc5, hLc6⟩, ⟨h2_, h4_, h5_, h6_, h7_, h8_, h9_, h10_⟩, hNc, hGg, ⟨hn, hnow, hsl, by omega⟩⟩
  refine z_aload_n C dX3_isCut_5 rfl 0 rfl ?_
  refine z_iload_n C dX3_isCut_6 rfl 1 rfl ?_
  refine z_callV (As := [.int x]) (st := []) (mc := 0) (ms := 0) C hLm h2_ rfl (c_X3_isThere l hlst G L F1_ m0 c0 c1 c2 c3 c4 c5 c6 n now sl 0 g hmoT x) (cwV 1 C.1.2.2.2.2 gX3_isCut_X3_isThere rfl rfl rfl (by decide +kernel) ⟨Nat.le_of_ble_eq_true rfl, Nat.le_of_ble_eq_true rfl⟩) rfl (Nat.le_of_ble_eq_true rfl) ⟨Nat.le_of_ble_eq_true rfl, Nat.le_of_ble_eq_true rfl⟩ dX3_isCut_7 (z_p ?_)
  refine z_stk (st' := [.int (nI (if 0 ≤ (x).toInt ∧ (x).toInt ≤ ((n : Nat) : Int) - 1 then 1 else 0))]) rfl ?_
  refine z_if_ne C 21 (¬ (0 ≤ (x).toInt ∧ (x).toInt ≤ ((n : Nat) : Int) - 1)) (zif_iff) dX3_isCut_10 (by decide) (fun c12_ => ?_) (fun c12_ => ?_)
  · -- 10 taken
    obtain ⟨k, hxk, hk⟩ := zIx_of (n := n) (v := x) ⟨by omega, by omega⟩
    refine z_lvs (lv' := [(0, .ref m0), (1, .int (nI k))]) (by rw [hxk]) ?_
    have hOk := hGg.1 k hk
    obtain ⟨u1, u2, u3, u4, u5, u6, u7, u8⟩ := id hOk
    refine z_aload_n C dX3_isCut_21 rfl 0 rfl ?_
    refine z_get (ref := "ShedwheelModel") (v := .ref c3) C hin_X3_isCut_X3 hLm h2_ rfl 3 (by decide) (by decide +kernel) (fun _ h9 => h9) rfl dX3_isCut_22 ?_
    refine z_iload_n C dX3_isCut_25 rfl 1 rfl ?_
    refine z_iald C hLc3 h7_ (by omega) (by omega) dX3_isCut_26 (nI (fOf (g k))) (rfl) ?_
    refine z_iconst C (nI 1) dX3_isCut_27 (by decide) ?_
    refine z_icmp_ne C 35 (((fOf (g k) : Nat) : Int) = ((1 : Nat) : Int)) (zi_eq (zi_N (n := fOf (g k)) (by omega)) (zi_N (n := 1) (by omega))) dX3_isCut_28 (by decide) (fun c13_ => ?_) (fun c13_ => ?_)
    · -- 28 taken
      refine z_iconst C (nI 0) dX3_isCut_35 (by decide) ?_
      refine z_iret0 C rfl rfl (by decide) (by decide) dX3_isCut_36 ?_
      exact ⟨_, rfl, rfl, fun b q0 q1 q2 q3 q4 q5 q6 q7 => kc11_ b q0, Or.inl ⟨k, hxk, hk, (by rw [show fOf (g k) = 0 by omega]), hmoT⟩⟩
    · -- 28 not taken
      refine z_iconst C (nI 1) dX3_isCut_31 (by decide) ?_
      refine z_goto C 36 dX3_isCut_32 (by decide) ?_
      refine z_iret0 C rfl rfl (by decide) (by decide) dX3_isCut_36 ?_
      exact ⟨_, rfl, rfl, fun b q0 q1 q2 q3 q4 q5 q6 q7 => kc11_ b q0, Or.inl ⟨k, hxk, hk, (by rw [show fOf (g k) = 1 by omega]), hmoT⟩⟩
  · -- 10 not taken
    refine z_aload_n C dX3_isCut_13 rfl 0 rfl ?_
    refine z_iconst C (nI 1) dX3_isCut_14 (by decide) ?_
    refine z_callV (As := [.int (nI 1)]) (st := []) (mc := 0) (ms := 0) C hLm h2_ rfl (c_X3_fails l hlst G L F1_ m0 c0 c1 c2 c3 c4 c5 c6 n now sl 0 g hmoT 1 (by decide)) (cwV 1 C.1.2.2.2.2 gX3_isCut_X3_fails rfl rfl rfl (by decide +kernel) ⟨Nat.le_of_ble_eq_true rfl, Nat.le_of_ble_eq_true rfl⟩) rfl (Nat.le_of_ble_eq_true rfl) ⟨Nat.le_of_ble_eq_true rfl, Nat.le_of_ble_eq_true rfl⟩ dX3_isCut_15 (fun rv9 L9 F9 hp9 => ?_)
    obtain ⟨e91, e92, hmo9, k9⟩ := hp9
    rw [e91, e92]
    refine z_stk (st' := [.int (nI 0)]) rfl ?_
    refine z_pop C dX3_isCut_18 rfl ?_
    refine z_iconst C (nI 0) dX3_isCut_19 (by decide) ?_
    refine z_iret0 C rfl rfl (by decide) (by decide) dX3_isCut_20 ?_
    exact ⟨_, rfl, rfl, fun b q0 q1 q2 q3 q4 q5 q6 q7 => (k9 b q0).trans (kc11_ b q0), Or.inr ⟨(fun h9 => (by obtain ⟨g1, g2⟩ := h9; omega)), hmo9⟩⟩

set_option maxRecDepth 100000 in
theorem hin_X3_takes_X3 : ∀ w ∈ u_ws RX3 TX3 11, w ∈ wsX3_takes := by decide +kernel
set_option maxHeartbeats 4000000 in
set_option maxRecDepth 100000 in
theorem c_X3_takes (l : Launch) (hlst : l.stackTraces = false) (G : zGt) (L : List Nat) (F : Nat → va_E) (m0 c0 c1 c2 c3 c4 c5 c6 : Nat) (n now sl thr : Nat) (g : Nat → FdT) (hmo : zMo G L F m0 c0 c1 c2 c3 c4 c5 c6 n now sl thr g) (x : Int32) : zM l yX3_takes wsX3_takes 3 67 0 0 G L F [.ref m0, .int x] (fun rv L1 F1 => ∃ r : Int32, rv = some (.int r) ∧ L1 = L ∧ (∀ b, b ≠ m0 → b ≠ c0 → b ≠ c1 → b ≠ c2 → b ≠ c3 → b ≠ c4 → b ≠ c5 → b ≠ c6 → F1 b = F b) ∧ ((∃ k : Nat, x = nI k ∧ k < n ∧ r = nI (fTk (g k)) ∧ zMo G L F1 m0 c0 c1 c2 c3 c4 c5 c6 n now sl 0 g) ∨ (¬ zIx n x ∧ zMo G L F1 m0 c0 c1 c2 c3 c4 c5 c6 n now sl 1 g))) := by
  obtain ⟨⟨hLm, hLc0, hLc1, hLc2, hLc3, hLc4, hLc5, hLc6⟩, ⟨hFm, hFc0, hFc1, hFc2, hFc3, hFc4, hFc5, hFc6⟩, hNc, hGg, ⟨hn, hnow, hsl, hthr⟩⟩ := id hmo
  refine z_of (cc := cX3_takes) (nL := 2) (ret := (some .int)) (own := RX3) hlst (by decide +kernel) rfl rfl (Nat.le_of_ble_eq_true rfl) ?_
  intro p e s m below meth c A hnm C
  refine z_lvs (lv' := [(0, .ref m0), (1, .int x)]) rfl ?_
  refine z_aload_n C dX3_takes_0 rfl 0 rfl ?_
  refine z_iconst C (nI 0) dX3_takes_1 (by decide) ?_
  refine z_put (ref := "ShedwheelModel") (v := .int (nI 0)) (fs' := [.ref c0, .ref c1, .ref c2, .ref c3, .ref c4, .ref c5, .ref c6, .int (nI n), .int (nI sl), .int (nI now), .int (nI 0)]) C hin_X3_takes_X3 tyX3 tyX3_ok nmX3 hLm hFm rfl 10 (by decide) (by decide +kernel) (fun _ h9 => h9) rfl rfl rfl (Nat.le_of_ble_eq_true rfl) rfl dX3_takes_2 (fun F1_ h2_ k3_ => ?_)
  have h4_ : F1_ c0 = .inl (G.2.1, 12, .inl (fun i9 => nI (fMw (g i9)))) := (k3_ c0 (zne hFc0 hFm rfl)).trans hFc0
  have h5_ : F1_ c1 = .inl (G.2.1, 12, .inl (fun i9 => nI (fCr (g i9)))) := (k3_ c1 (zne hFc1 hFm rfl)).trans hFc1
  have h6_ : F1_ c2 = .inl (G.2.1, 12, .inl (fun i9 => nI (fSg (g i9)))) := (k3_ c2 (zne hFc2 hFm rfl)).trans hFc2
  have h7_ : F1_ c3 = .inl (G.2.1, 12, .inl (fun i9 => nI (fOf (g i9)))) := (k3_ c3 (zne hFc3 hFm rfl)).trans hFc3
  have h8_ : F1_ c4 = .inl (G.2.1, 12, .inl (fun i9 => nI (fHo (g i9)))) := (k3_ c4 (zne hFc4 hFm rfl)).trans hFc4
  have h9_ : F1_ c5 = .inl (G.2.1, 12, .inl (fun i9 => nI (fTh (g i9)))) := (k3_ c5 (zne hFc5 hFm rfl)).trans hFc5
  have h10_ : F1_ c6 = .inl (G.2.1, 12, .inl (fun i9 => nI (fCo (g i9)))) := (k3_ c6 (zne hFc6 hFm rfl)).trans hFc6
  have kc11_ : ∀ b, b ≠ m0 → F1_ b = F b := fun b q0 => k3_ b q0
  have hmoT : zMo G L F1_ m0 c0 c1 c2 c3 c4 c5 c6 n now sl 0 g := ⟨⟨hLm, hLc0, hLc1, hLc2, hLc3, hLc4, hLc5, hLc6⟩, ⟨h2_, h4_, h5_, h6_, h7_, h8_, h9_, h10_⟩, hNc, hGg, ⟨hn, hnow, hsl, by omega⟩⟩
  refine z_aload_n C dX3_takes_5 rfl 0 rfl ?_
  refine z_iload_n C dX3_takes_6 rfl 1 rfl ?_
  refine z_callV (As := [.int x]) (st := []) (mc := 0) (ms := 0) C hLm h2_ rfl (c_X3_isThere l hlst G L F1_ m0 c0 c1 c2 c3 c4 c5 c6 n now sl 0 g hmoT x) (cwV 1 C.1.2.2.2.2 gX3_takes_X3_isThere rfl rfl rfl (by decide +kernel) ⟨Nat.le_of_ble_eq_true rfl, Nat.le_of_ble_eq_true rfl⟩) rfl (Nat.le_of_ble_eq_true rfl) ⟨Nat.le_of_ble_eq_true rfl, Nat.le_of_ble_eq_true rfl⟩ dX3_takes_7 (z_p ?_)
  refine z_stk (st' := [.int (nI (if 0 ≤ (x).toInt ∧ (x).toInt ≤ ((n : Nat) : Int) - 1 then 1 else 0))]) rfl ?_
  refine z_if_eq C 21 (¬ (0 ≤ (x).toInt ∧ (x).toInt ≤ ((n : Nat) : Int) - 1)) (zif_iff) dX3_takes_10 (by decide) (fun c12_ => ?_) (fun c12_ => ?_)
  · -- 10 taken
    refine z_aload_n C dX3_takes_21 rfl 0 rfl ?_
    refine z_iconst C (nI 1) dX3_takes_22 (by decide) ?_
    refine z_callV (As := [.int (nI 1)]) (st := []) (mc := 0) (ms := 0) C hLm h2_ rfl (c_X3_fails l hlst G L F1_ m0 c0 c1 c2 c3 c4 c5 c6 n now sl 0 g hmoT 1 (by decide)) (cwV 1 C.1.2.2.2.2 gX3_takes_X3_fails rfl rfl rfl (by decide +kernel) ⟨Nat.le_of_ble_eq_true rfl, Nat.le_of_ble_eq_true rfl⟩) rfl (Nat.le_of_ble_eq_true rfl) ⟨Nat.le_of_ble_eq_true rfl, Nat.le_of_ble_eq_true rfl⟩ dX3_takes_23 (fun rv9 L9 F9 hp9 => ?_)
    obtain ⟨e91, e92, hmo9, k9⟩ := hp9
    rw [e91, e92]
    refine z_stk (st' := [.int (nI 0)]) rfl ?_
    refine z_iret0 C rfl rfl (by decide) (by decide) dX3_takes_26 ?_
    exact ⟨_, rfl, rfl, fun b q0 q1 q2 q3 q4 q5 q6 q7 => (k9 b q0).trans (kc11_ b q0), Or.inr ⟨(fun h9 => (by obtain ⟨g1, g2⟩ := h9; omega)), hmo9⟩⟩
  · -- 10 not taken
    obtain ⟨k, hxk, hk⟩ := zIx_of (n := n) (v := x) ⟨by omega, by omega⟩
    refine z_lvs (lv' := [(0, .ref m0), (1, .int (nI k))]) (by rw [hxk]) ?_
    have hOk := hGg.1 k hk
    obtain ⟨u1, u2, u3, u4, u5, u6, u7, u8⟩ := id hOk
    refine z_aload_n C dX3_takes_13 rfl 0 rfl ?_
    refine z_iload_n C dX3_takes_14 rfl 1 rfl ?_
    refine z_callV (As := [.int (nI k)]) (st := []) (mc := 0) (ms := 0) C hLm h2_ rfl (c_X3_takesOf l hlst G L F1_ m0 c0 c1 c2 c3 c4 c5 c6 n now sl 0 g hmoT k (by omega)) (cwV 1 C.1.2.2.2.2 gX3_takes_X3_takesOf rfl rfl rfl (by decide +kernel) ⟨Nat.le_of_ble_eq_true rfl, Nat.le_of_ble_eq_true rfl⟩) rfl (Nat.le_of_ble_eq_true rfl) ⟨Nat.le_of_ble_eq_true rfl, Nat.le_of_ble_eq_true rfl⟩ dX3_takes_15 (z_p ?_)
    refine z_stk (st' := [.int (nI (fTk (g k)))]) rfl ?_
    refine z_goto C 26 dX3_takes_18 (by decide) ?_
    refine z_iret0 C rfl rfl (by decide) (by decide) dX3_takes_26 ?_
    exact ⟨_, rfl, rfl, fun b q0 q1 q2 q3 q4 q5 q6 q7 => kc11_ b q0, Or.inl ⟨k, hxk, hk, rfl, hmoT⟩⟩

set_option maxRecDepth 100000 in
theorem hin_X3_cold_X3 : ∀ w ∈ u_ws RX3 TX3 11, w ∈ wsX3_cold := by decide +kernel
set_option maxHeartbeats 4000000 in
set_option maxRecDepth 100000 in
theorem c_X3_cold (l : Launch) (hlst : l.stackTraces = false) (G : zGt) (L : List Nat) (F : Nat → va_E) (m0 c0 c1 c2 c3 c4 c5 c6 : Nat) (n now sl thr : Nat) (g : Nat → FdT) (hmo : zMo G L F m0 c0 c1 c2 c3 c4 c5 c6 n now sl thr g) (x : Int32) : zM l yX3_cold wsX3_cold 3 67 0 0 G L F [.ref m0, .int x] (fun rv L1 F1 => ∃ r : Int32, rv = some (.int r) ∧ L1 = L ∧ (∀ b, b ≠ m0 → b ≠ c0 → b ≠ c1 → b ≠ c2 → b ≠ c3 → b ≠ c4 → b ≠ c5 → b ≠ c6 → F1 b = F b) ∧ ((∃ k : Nat, x = nI k ∧ k < n ∧ r = nI (fCo (g k)) ∧ zMo G L F1 m0 c0 c1 c2 c3 c4 c5 c6 n now sl 0 g) ∨ (¬ zIx n x ∧ zMo G L F1 m0 c0 c1 c2 c3 c4 c5 c6 n now sl 1 g))) := by
  obtain ⟨⟨hLm, hLc0, hLc1, hLc2, hLc3, hLc4, hLc5, hLc6⟩, ⟨hFm, hFc0, hFc1, hFc2, hFc3, hFc4, hFc5, hFc6⟩, hNc, hGg, ⟨hn, hnow, hsl, hthr⟩⟩ := id hmo
  refine z_of (cc := cX3_cold) (nL := 2) (ret := (some .int)) (own := RX3) hlst (by decide +kernel) rfl rfl (Nat.le_of_ble_eq_true rfl) ?_
  intro p e s m below meth c A hnm C
  refine z_lvs (lv' := [(0, .ref m0), (1, .int x)]) rfl ?_
  refine z_aload_n C dX3_cold_0 rfl 0 rfl ?_
  refine z_iconst C (nI 0) dX3_cold_1 (by decide) ?_
  refine z_put (ref := "ShedwheelModel") (v := .int (nI 0)) (fs' := [.ref c0, .ref c1, .ref c2, .ref c3, .ref c4, .ref c5, .ref c6, .int (nI n), .int (nI sl), .int (nI now), .int (nI 0)]) C hin_X3_cold_X3 tyX3 tyX3_ok nmX3 hLm hFm rfl 10 (by decide) (by decide +kernel) (fun _ h9 => h9) rfl rfl rfl (Nat.le_of_ble_eq_true rfl) rfl dX3_cold_2 (fun F1_ h2_ k3_ => ?_)
  have h4_ : F1_ c0 = .inl (G.2.1, 12, .inl (fun i9 => nI (fMw (g i9)))) := (k3_ c0 (zne hFc0 hFm rfl)).trans hFc0
  have h5_ : F1_ c1 = .inl (G.2.1, 12, .inl (fun i9 => nI (fCr (g i9)))) := (k3_ c1 (zne hFc1 hFm rfl)).trans hFc1
  have h6_ : F1_ c2 = .inl (G.2.1, 12, .inl (fun i9 => nI (fSg (g i9)))) := (k3_ c2 (zne hFc2 hFm rfl)).trans hFc2
  have h7_ : F1_ c3 = .inl (G.2.1, 12, .inl (fun i9 => nI (fOf (g i9)))) := (k3_ c3 (zne hFc3 hFm rfl)).trans hFc3
  have h8_ : F1_ c4 = .inl (G.2.1, 12, .inl (fun i9 => nI (fHo (g i9)))) := (k3_ c4 (zne hFc4 hFm rfl)).trans hFc4
  have h9_ : F1_ c5 = .inl (G.2.1, 12, .inl (fun i9 => nI (fTh (g i9)))) := (k3_ c5 (zne hFc5 hFm rfl)).trans hFc5
  have h10_ : F1_ c6 = .inl (G.2.1, 12, .inl (fun i9 => nI (fCo (g i9)))) := (k3_ c6 (zne hFc6 hFm rfl)).trans hFc6
  have kc11_ : ∀ b, b ≠ m0 → F1_ b = F b := fun b q0 => k3_ b q0
  have hmoT : zMo G L F1_ m0 c0 c1 c2 c3 c4 c5 c6 n now sl 0 g := ⟨⟨hLm, hLc0, hLc1, hLc2, hLc3, hLc4, hLc5, hLc6⟩, ⟨h2_, h4_, h5_, h6_, h7_, h8_, h9_, h10_⟩, hNc, hGg, ⟨hn, hnow, hsl, by omega⟩⟩
  refine z_aload_n C dX3_cold_5 rfl 0 rfl ?_
  refine z_iload_n C dX3_cold_6 rfl 1 rfl ?_
  refine z_callV (As := [.int x]) (st := []) (mc := 0) (ms := 0) C hLm h2_ rfl (c_X3_isThere l hlst G L F1_ m0 c0 c1 c2 c3 c4 c5 c6 n now sl 0 g hmoT x) (cwV 1 C.1.2.2.2.2 gX3_cold_X3_isThere rfl rfl rfl (by decide +kernel) ⟨Nat.le_of_ble_eq_true rfl, Nat.le_of_ble_eq_true rfl⟩) rfl (Nat.le_of_ble_eq_true rfl) ⟨Nat.le_of_ble_eq_true rfl, Nat.le_of_ble_eq_true rfl⟩ dX3_cold_7 (z_p ?_)
  refine z_stk (st' := [.int (nI (if 0 ≤ (x).toInt ∧ (x).toInt ≤ ((n : Nat) : Int) - 1 then 1 else 0))]) rfl ?_
  refine z_if_eq C 22 (¬ (0 ≤ (x).toInt ∧ (x).toInt ≤ ((n : Nat) : Int) - 1)) (zif_iff) dX3_cold_10 (by decide) (fun c12_ => ?_) (fun c12_ => ?_)
  · -- 10 taken
    refine z_aload_n C dX3_cold_22 rfl 0 rfl ?_
    refine z_iconst C (nI 1) dX3_cold_23 (by decide) ?_
    refine z_callV (As := [.int (nI 1)]) (st := []) (mc := 0) (ms := 0) C hLm h2_ rfl (c_X3_fails l hlst G L F1_ m0 c0 c1 c2 c3 c4 c5 c6 n now sl 0 g hmoT 1 (by decide)) (cwV 1 C.1.2.2.2.2 gX3_cold_X3_fails rfl rfl rfl (by decide +kernel) ⟨Nat.le_of_ble_eq_true rfl, Nat.le_of_ble_eq_true rfl⟩) rfl (Nat.le_of_ble_eq_true rfl) ⟨Nat.le_of_ble_eq_true rfl, Nat.le_of_ble_eq_true rfl⟩ dX3_cold_24 (fun rv9 L9 F9 hp9 => ?_)
    obtain ⟨e91, e92, hmo9, k9⟩ := hp9
    rw [e91, e92]
    refine z_stk (st' := [.int (nI 0)]) rfl ?_
    refine z_iret0 C rfl rfl (by decide) (by decide) dX3_cold_27 ?_
    exact ⟨_, rfl, rfl, fun b q0 q1 q2 q3 q4 q5 q6 q7 => (k9 b q0).trans (kc11_ b q0), Or.inr ⟨(fun h9 => (by obtain ⟨g1, g2⟩ := h9; omega)), hmo9⟩⟩
  · -- 10 not taken
    obtain ⟨k, hxk, hk⟩ := zIx_of (n := n) (v := x) ⟨by omega, by omega⟩
    refine z_lvs (lv' := [(0, .ref m0), (1, .int (nI k))]) (by rw [hxk]) ?_
    have hOk := hGg.1 k hk
    obtain ⟨u1, u2, u3, u4, u5, u6, u7, u8⟩ := id hOk
    refine z_aload_n C dX3_cold_13 rfl 0 rfl ?_
    refine z_get (ref := "ShedwheelModel") (v := .ref c6) C hin_X3_cold_X3 hLm h2_ rfl 6 (by decide) (by decide +kernel) (fun _ h9 => h9) rfl dX3_cold_14 ?_
    refine z_iload_n C dX3_cold_17 rfl 1 rfl ?_
    refine z_iald C hLc6 h10_ (by omega) (by omega) dX3_cold_18 (nI (fCo (g k))) (rfl) ?_
    refine z_goto C 27 dX3_cold_19 (by decide) ?_
    refine z_iret0 C rfl rfl (by decide) (by decide) dX3_cold_27 ?_
    exact ⟨_, rfl, rfl, fun b q0 q1 q2 q3 q4 q5 q6 q7 => kc11_ b q0, Or.inl ⟨k, hxk, hk, rfl, hmoT⟩⟩

set_option maxRecDepth 100000 in
theorem hin_X3_hours_X3 : ∀ w ∈ u_ws RX3 TX3 11, w ∈ wsX3_hours := by decide +kernel
set_option maxHeartbeats 4000000 in
set_option maxRecDepth 100000 in
theorem c_X3_hours (l : Launch) (hlst : l.stackTraces = false) (G : zGt) (L : List Nat) (F : Nat → va_E) (m0 c0 c1 c2 c3 c4 c5 c6 : Nat) (n now sl thr : Nat) (g : Nat → FdT) (hmo : zMo G L F m0 c0 c1 c2 c3 c4 c5 c6 n now sl thr g) (x : Int32) : zM l yX3_hours wsX3_hours 3 67 0 0 G L F [.ref m0, .int x] (fun rv L1 F1 => ∃ r : Int32, rv = some (.int r) ∧ L1 = L ∧ (∀ b, b ≠ m0 → b ≠ c0 → b ≠ c1 → b ≠ c2 → b ≠ c3 → b ≠ c4 → b ≠ c5 → b ≠ c6 → F1 b = F b) ∧ ((∃ k : Nat, x = nI k ∧ k < n ∧ r = nI (fHo (g k)) ∧ zMo G L F1 m0 c0 c1 c2 c3 c4 c5 c6 n now sl 0 g) ∨ (¬ zIx n x ∧ zMo G L F1 m0 c0 c1 c2 c3 c4 c5 c6 n now sl 1 g))) := by
  obtain ⟨⟨hLm, hLc0, hLc1, hLc2, hLc3, hLc4, hLc5, hLc6⟩, ⟨hFm, hFc0, hFc1, hFc2, hFc3, hFc4, hFc5, hFc6⟩, hNc, hGg, ⟨hn, hnow, hsl, hthr⟩⟩ := id hmo
  refine z_of (cc := cX3_hours) (nL := 2) (ret := (some .int)) (own := RX3) hlst (by decide +kernel) rfl rfl (Nat.le_of_ble_eq_true rfl) ?_
  intro p e s m below meth c A hnm C
  refine z_lvs (lv' := [(0, .ref m0), (1, .int x)]) rfl ?_
  refine z_aload_n C dX3_hours_0 rfl 0 rfl ?_
  refine z_iconst C (nI 0) dX3_hours_1 (by decide) ?_
  refine z_put (ref := "ShedwheelModel") (v := .int (nI 0)) (fs' := [.ref c0, .ref c1, .ref c2, .ref c3, .ref c4, .ref c5, .ref c6, .int (nI n), .int (nI sl), .int (nI now), .int (nI 0)]) C hin_X3_hours_X3 tyX3 tyX3_ok nmX3 hLm hFm rfl 10 (by decide) (by decide +kernel) (fun _ h9 => h9) rfl rfl rfl (Nat.le_of_ble_eq_true rfl) rfl dX3_hours_2 (fun F1_ h2_ k3_ => ?_)
  have h4_ : F1_ c0 = .inl (G.2.1, 12, .inl (fun i9 => nI (fMw (g i9)))) := (k3_ c0 (zne hFc0 hFm rfl)).trans hFc0
  have h5_ : F1_ c1 = .inl (G.2.1, 12, .inl (fun i9 => nI (fCr (g i9)))) := (k3_ c1 (zne hFc1 hFm rfl)).trans hFc1
  have h6_ : F1_ c2 = .inl (G.2.1, 12, .inl (fun i9 => nI (fSg (g i9)))) := (k3_ c2 (zne hFc2 hFm rfl)).trans hFc2
  have h7_ : F1_ c3 = .inl (G.2.1, 12, .inl (fun i9 => nI (fOf (g i9)))) := (k3_ c3 (zne hFc3 hFm rfl)).trans hFc3
  have h8_ : F1_ c4 = .inl (G.2.1, 12, .inl (fun i9 => nI (fHo (g i9)))) := (k3_ c4 (zne hFc4 hFm rfl)).trans hFc4
  have h9_ : F1_ c5 = .inl (G.2.1, 12, .inl (fun i9 => nI (fTh (g i9)))) := (k3_ c5 (zne hFc5 hFm rfl)).trans hFc5
  have h10_ : F1_ c6 = .inl (G.2.1, 12, .inl (fun i9 => nI (fCo (g i9)))) := (k3_ c6 (zne hFc6 hFm rfl)).trans hFc6
  have kc11_ : ∀ b, b ≠ m0 → F1_ b = F b := fun b q0 => k3_ b q0
  have hmoT : zMo G L F1_ m0 c0 c1 c2 c3 c4 c5 c6 n now sl 0 g := ⟨⟨hLm, hLc0, hLc1, hLc2, hLc3, hLc4, hLc5, hLc6⟩, ⟨h2_, h4_, h5_, h6_, h7_, h8_, h9_, h10_⟩, hNc, hGg, ⟨hn, hnow, hsl, by omega⟩⟩
  refine z_aload_n C dX3_hours_5 rfl 0 rfl ?_
  refine z_iload_n C dX3_hours_6 rfl 1 rfl ?_
  refine z_callV (As := [.int x]) (st := []) (mc := 0) (ms := 0) C hLm h2_ rfl (c_X3_isThere l hlst G L F1_ m0 c0 c1 c2 c3 c4 c5 c6 n now sl 0 g hmoT x) (cwV 1 C.1.2.2.2.2 gX3_hours_X3_isThere rfl rfl rfl (by decide +kernel) ⟨Nat.le_of_ble_eq_true rfl, Nat.le_of_ble_eq_true rfl⟩) rfl (Nat.le_of_ble_eq_true rfl) ⟨Nat.le_of_ble_eq_true rfl, Nat.le_of_ble_eq_true rfl⟩ dX3_hours_7 (z_p ?_)
  refine z_stk (st' := [.int (nI (if 0 ≤ (x).toInt ∧ (x).toInt ≤ ((n : Nat) : Int) - 1 then 1 else 0))]) rfl ?_
  refine z_if_eq C 22 (¬ (0 ≤ (x).toInt ∧ (x).toInt ≤ ((n : Nat) : Int) - 1)) (zif_iff) dX3_hours_10 (by decide) (fun c12_ => ?_) (fun c12_ => ?_)
  · -- 10 taken
    refine z_aload_n C dX3_hours_22 rfl 0 rfl ?_
    refine z_iconst C (nI 1) dX3_hours_23 (by decide) ?_
    refine z_callV (As := [.int (nI 1)]) (st := []) (mc := 0) (ms := 0) C hLm h2_ rfl (c_X3_fails l hlst G L F1_ m0 c0 c1 c2 c3 c4 c5 c6 n now sl 0 g hmoT 1 (by decide)) (cwV 1 C.1.2.2.2.2 gX3_hours_X3_fails rfl rfl rfl (by decide +kernel) ⟨Nat.le_of_ble_eq_true rfl, Nat.le_of_ble_eq_true rfl⟩) rfl (Nat.le_of_ble_eq_true rfl) ⟨Nat.le_of_ble_eq_true rfl, Nat.le_of_ble_eq_true rfl⟩ dX3_hours_24 (fun rv9 L9 F9 hp9 => ?_)
    obtain ⟨e91, e92, hmo9, k9⟩ := hp9
    rw [e91, e92]
    refine z_stk (st' := [.int (nI 0)]) rfl ?_
    refine z_iret0 C rfl rfl (by decide) (by decide) dX3_hours_27 ?_
    exact ⟨_, rfl, rfl, fun b q0 q1 q2 q3 q4 q5 q6 q7 => (k9 b q0).trans (kc11_ b q0), Or.inr ⟨(fun h9 => (by obtain ⟨g1, g2⟩ := h9; omega)), hmo9⟩⟩
  · -- 10 not taken
    obtain ⟨k, hxk, hk⟩ := zIx_of (n := n) (v := x) ⟨by omega, by omega⟩
    refine z_lvs (lv' := [(0, .ref m0), (1, .int (nI k))]) (by rw [hxk]) ?_
    have hOk := hGg.1 k hk
    obtain ⟨u1, u2, u3, u4, u5, u6, u7, u8⟩ := id hOk
    refine z_aload_n C dX3_hours_13 rfl 0 rfl ?_
    refine z_get (ref := "ShedwheelModel") (v := .ref c4) C hin_X3_hours_X3 hLm h2_ rfl 4 (by decide) (by decide +kernel) (fun _ h9 => h9) rfl dX3_hours_14 ?_
    refine z_iload_n C dX3_hours_17 rfl 1 rfl ?_
    refine z_iald C hLc4 h8_ (by omega) (by omega) dX3_hours_18 (nI (fHo (g k))) (rfl) ?_
    refine z_goto C 27 dX3_hours_19 (by decide) ?_
    refine z_iret0 C rfl rfl (by decide) (by decide) dX3_hours_27 ?_
    exact ⟨_, rfl, rfl, fun b q0 q1 q2 q3 q4 q5 q6 q7 => kc11_ b q0, Or.inl ⟨k, hxk, hk, rfl, hmoT⟩⟩

set_option maxRecDepth 100000 in
theorem hin_X3_setLoad_X3 : ∀ w ∈ u_ws RX3 TX3 11, w ∈ wsX3_setLoad := by decide +kernel
set_option maxHeartbeats 4000000 in
set_option maxRecDepth 100000 in
theorem c_X3_setLoad (l : Launch) (hlst : l.stackTraces = false) (G : zGt) (L : List Nat) (F : Nat → va_E) (m0 c0 c1 c2 c3 c4 c5 c6 : Nat) (n now sl thr : Nat) (g : Nat → FdT) (hmo : zMo G L F m0 c0 c1 c2 c3 c4 c5 c6 n now sl thr g) (x v : Int32) : zM l yX3_setLoad wsX3_setLoad 3 67 0 0 G L F [.ref m0, .int x, .int v] (fun rv L1 F1 => ∃ r : Int32, rv = some (.int r) ∧ L1 = L ∧ (∀ b, b ≠ m0 → b ≠ c0 → b ≠ c1 → b ≠ c2 → b ≠ c3 → b ≠ c4 → b ≠ c5 → b ≠ c6 → F1 b = F b) ∧ ((∃ k j : Nat, x = nI k ∧ k < n ∧ v = nI j ∧ 1 ≤ j ∧ j ≤ 999 ∧ r = nI (fMw (g k)) ∧ zMo G L F1 m0 c0 c1 c2 c3 c4 c5 c6 n now sl 0 ((upF g k (fdLd j (g k))))) ∨ (¬ zIx n x ∧ zMo G L F1 m0 c0 c1 c2 c3 c4 c5 c6 n now sl 1 g) ∨ (zIx n x ∧ ¬ zIn 1 999 v ∧ zMo G L F1 m0 c0 c1 c2 c3 c4 c5 c6 n now sl 2 g))) := by
  obtain ⟨⟨hLm, hLc0, hLc1, hLc2, hLc3, hLc4, hLc5, hLc6⟩, ⟨hFm, hFc0, hFc1, hFc2, hFc3, hFc4, hFc5, hFc6⟩, hNc, hGg, ⟨hn, hnow, hsl, hthr⟩⟩ := id hmo
  refine z_of (cc := cX3_setLoad) (nL := 4) (ret := (some .int)) (own := RX3) hlst (by decide +kernel) rfl rfl (Nat.le_of_ble_eq_true rfl) ?_
  intro p e s m below meth c A hnm C
  refine z_lvs (lv' := [(0, .ref m0), (1, .int x), (2, .int v)]) rfl ?_
  refine z_aload_n C dX3_setLoad_0 rfl 0 rfl ?_
  refine z_iconst C (nI 0) dX3_setLoad_1 (by decide) ?_
  refine z_put (ref := "ShedwheelModel") (v := .int (nI 0)) (fs' := [.ref c0, .ref c1, .ref c2, .ref c3, .ref c4, .ref c5, .ref c6, .int (nI n), .int (nI sl), .int (nI now), .int (nI 0)]) C hin_X3_setLoad_X3 tyX3 tyX3_ok nmX3 hLm hFm rfl 10 (by decide) (by decide +kernel) (fun _ h9 => h9) rfl rfl rfl (Nat.le_of_ble_eq_true rfl) rfl dX3_setLoad_2 (fun F1_ h2_ k3_ => ?_)
  have h4_ : F1_ c0 = .inl (G.2.1, 12, .inl (fun i9 => nI (fMw (g i9)))) := (k3_ c0 (zne hFc0 hFm rfl)).trans hFc0
  have h5_ : F1_ c1 = .inl (G.2.1, 12, .inl (fun i9 => nI (fCr (g i9)))) := (k3_ c1 (zne hFc1 hFm rfl)).trans hFc1
  have h6_ : F1_ c2 = .inl (G.2.1, 12, .inl (fun i9 => nI (fSg (g i9)))) := (k3_ c2 (zne hFc2 hFm rfl)).trans hFc2
  have h7_ : F1_ c3 = .inl (G.2.1, 12, .inl (fun i9 => nI (fOf (g i9)))) := (k3_ c3 (zne hFc3 hFm rfl)).trans hFc3
  have h8_ : F1_ c4 = .inl (G.2.1, 12, .inl (fun i9 => nI (fHo (g i9)))) := (k3_ c4 (zne hFc4 hFm rfl)).trans hFc4
  have h9_ : F1_ c5 = .inl (G.2.1, 12, .inl (fun i9 => nI (fTh (g i9)))) := (k3_ c5 (zne hFc5 hFm rfl)).trans hFc5
  have h10_ : F1_ c6 = .inl (G.2.1, 12, .inl (fun i9 => nI (fCo (g i9)))) := (k3_ c6 (zne hFc6 hFm rfl)).trans hFc6
  have kc11_ : ∀ b, b ≠ m0 → F1_ b = F b := fun b q0 => k3_ b q0
  have hmoT : zMo G L F1_ m0 c0 c1 c2 c3 c4 c5 c6 n now sl 0 g := ⟨⟨hLm, hLc0, hLc1, hLc2, hLc3, hLc4, hLc5, hLc6⟩, ⟨h2_, h4_, h5_, h6_, h7_, h8_, h9_, h10_⟩, hNc, hGg, ⟨hn, hnow, hsl, by omega⟩⟩
  refine z_aload_n C dX3_setLoad_5 rfl 0 rfl ?_
  refine z_iload_n C dX3_setLoad_6 rfl 1 rfl ?_
  refine z_callV (As := [.int x]) (st := []) (mc := 0) (ms := 0) C hLm h2_ rfl (c_X3_isThere l hlst G L F1_ m0 c0 c1 c2 c3 c4 c5 c6 n now sl 0 g hmoT x) (cwV 1 C.1.2.2.2.2 gX3_setLoad_X3_isThere rfl rfl rfl (by decide +kernel) ⟨Nat.le_of_ble_eq_true rfl, Nat.le_of_ble_eq_true rfl⟩) rfl (Nat.le_of_ble_eq_true rfl) ⟨Nat.le_of_ble_eq_true rfl, Nat.le_of_ble_eq_true rfl⟩ dX3_setLoad_7 (z_p ?_)
  refine z_stk (st' := [.int (nI (if 0 ≤ (x).toInt ∧ (x).toInt ≤ ((n : Nat) : Int) - 1 then 1 else 0))]) rfl ?_
  refine z_if_ne C 19 (¬ (0 ≤ (x).toInt ∧ (x).toInt ≤ ((n : Nat) : Int) - 1)) (zif_iff) dX3_setLoad_10 (by decide) (fun c12_ => ?_) (fun c12_ => ?_)
  · -- 10 taken
    obtain ⟨k, hxk, hk⟩ := zIx_of (n := n) (v := x) ⟨by omega, by omega⟩
    refine z_lvs (lv' := [(0, .ref m0), (1, .int (nI k)), (2, .int v)]) (by rw [hxk]) ?_
    have hOk := hGg.1 k hk
    obtain ⟨u1, u2, u3, u4, u5, u6, u7, u8⟩ := id hOk
    refine z_iload_n C dX3_setLoad_19 rfl 2 rfl ?_
    refine z_iconst C (nI 1) dX3_setLoad_20 (by decide) ?_
    refine z_sipush C (nI 999) dX3_setLoad_21 (by decide) ?_
    refine z_callS (As := [.int v, .int (nI 1), .int (nI 999)]) (st := []) (mc := 0) (ms := 0) C (c_X3_in l hlst G L F1_ v (nI 1) (nI 999) (((1 : Nat) : Int)) (((999 : Nat) : Int)) (zi_N (n := 1) (by omega)) (zi_N (n := 999) (by omega))) (va_cwS 3 C.1.2.2.2.2 gX3_setLoad_X3_in rfl rfl rfl (by decide +kernel) ⟨Nat.le_of_ble_eq_true rfl, Nat.le_of_ble_eq_true rfl⟩) rfl (Nat.le_of_ble_eq_true rfl) ⟨Nat.le_of_ble_eq_true rfl, Nat.le_of_ble_eq_true rfl⟩ dX3_setLoad_24 (z_p ?_)
    refine z_stk (st' := [.int (nI (if ((1 : Nat) : Int) ≤ (v).toInt ∧ (v).toInt ≤ ((999 : Nat) : Int) then 1 else 0))]) rfl ?_
    refine z_if_ne C 36 (¬ (((1 : Nat) : Int) ≤ (v).toInt ∧ (v).toInt ≤ ((999 : Nat) : Int))) (zif_iff) dX3_setLoad_27 (by decide) (fun c13_ => ?_) (fun c13_ => ?_)
    · -- 27 taken
      obtain ⟨j, hvj, hj1, hj2⟩ := zIn_of (lo := 1) (hi := 999) (v := v) ⟨by omega, by omega⟩
      refine z_lvs (lv' := [(0, .ref m0), (1, .int (nI k)), (2, .int (nI j))]) (by rw [hvj]) ?_
      refine z_aload_n C dX3_setLoad_36 rfl 0 rfl ?_
      refine z_get (ref := "ShedwheelModel") (v := .ref c0) C hin_X3_setLoad_X3 hLm h2_ rfl 0 (by decide) (by decide +kernel) (fun _ h9 => h9) rfl dX3_setLoad_37 ?_
      refine z_iload_n C dX3_setLoad_40 rfl 1 rfl ?_
      refine z_iald C hLc0 h4_ (by omega) (by omega) dX3_setLoad_41 (nI (fMw (g k))) (rfl) ?_
      refine z_istore_n (lv' := [(3, .int (nI (fMw (g k)))), (0, .ref m0), (1, .int (nI k)), (2, .int (nI j))]) C dX3_setLoad_42 rfl (by decide) rfl ?_
      refine z_aload_n C dX3_setLoad_43 rfl 1 rfl ?_
      refine z_get (ref := "ShedwheelModel") (v := .ref c0) C hin_X3_setLoad_X3 hLm h2_ rfl 0 (by decide) (by decide +kernel) (fun _ h9 => h9) rfl dX3_setLoad_44 ?_
      refine z_iload_n C dX3_setLoad_47 rfl 2 rfl ?_
      refine z_iload_n C dX3_setLoad_48 rfl 3 rfl ?_
      refine z_iast C hLc0 h4_ (by omega) (by omega) dX3_setLoad_49 (fun F14_ h15_ k16_ => ?_)
      have h17_ : F14_ m0 = .inr (4, [.ref c0, .ref c1, .ref c2, .ref c3, .ref c4, .ref c5, .ref c6, .int (nI n), .int (nI sl), .int (nI now), .int (nI 0)]) := (k16_ m0 (zne h2_ h4_ rfl)).trans h2_
      have h18_ : F14_ c1 = .inl (G.2.1, 12, .inl (fun i9 => nI (fCr (g i9)))) := (k16_ c1 (Ne.symm hNc.1.1)).trans h5_
      have h19_ : F14_ c2 = .inl (G.2.1, 12, .inl (fun i9 => nI (fSg (g i9)))) := (k16_ c2 (Ne.symm hNc.1.2.1)).trans h6_
      have h20_ : F14_ c3 = .inl (G.2.1, 12, .inl (fun i9 => nI (fOf (g i9)))) := (k16_ c3 (Ne.symm hNc.1.2.2.1)).trans h7_
      have h21_ : F14_ c4 = .inl (G.2.1, 12, .inl (fun i9 => nI (fHo (g i9)))) := (k16_ c4 (Ne.symm hNc.1.2.2.2.1)).trans h8_
      have h22_ : F14_ c5 = .inl (G.2.1, 12, .inl (fun i9 => nI (fTh (g i9)))) := (k16_ c5 (Ne.symm hNc.1.2.2.2.2.1)).trans h9_
      have h23_ : F14_ c6 = .inl (G.2.1, 12, .inl (fun i9 => nI (fCo (g i9)))) := (k16_ c6 (Ne.symm hNc.1.2.2.2.2.2)).trans h10_
      have kc24_ : ∀ b, b ≠ m0 → b ≠ c0 → F14_ b = F b := fun b q0 q1 => (k16_ b q1).trans (kc11_ b q0)
      refine z_iload_n C dX3_setLoad_50 rfl 0 rfl ?_
      refine z_iret0 C rfl rfl (by decide) (by decide) dX3_setLoad_51 ?_
      have hmo2 : zMo G L F14_ m0 c0 c1 c2 c3 c4 c5 c6 n now sl 0 (upF g k (fdLd j (g k))) := ⟨⟨hLm, hLc0, hLc1, hLc2, hLc3, hLc4, hLc5, hLc6⟩, ⟨h17_, (h15_).trans (by rw [show (upd (fun i9 => nI (fMw (g i9))) k (nI j)) = (fun i9 => nI (fMw (upF g k (fdLd j (g k)) i9))) from fl_upd (g := g) (k := k) (r := (fdLd j (g k))) fMw]), (h18_).trans (by rw [show (fun i9 => nI (fCr (g i9))) = (fun i9 => nI (fCr (upF g k (fdLd j (g k)) i9))) from fl_same (g := g) (k := k) (r := (fdLd j (g k))) fCr rfl]), (h19_).trans (by rw [show (fun i9 => nI (fSg (g i9))) = (fun i9 => nI (fSg (upF g k (fdLd j (g k)) i9))) from fl_same (g := g) (k := k) (r := (fdLd j (g k))) fSg rfl]), (h20_).trans (by rw [show (fun i9 => nI (fOf (g i9))) = (fun i9 => nI (fOf (upF g k (fdLd j (g k)) i9))) from fl_same (g := g) (k := k) (r := (fdLd j (g k))) fOf rfl]), (h21_).trans (by rw [show (fun i9 => nI (fHo (g i9))) = (fun i9 => nI (fHo (upF g k (fdLd j (g k)) i9))) from fl_same (g := g) (k := k) (r := (fdLd j (g k))) fHo rfl]), (h22_).trans (by rw [show (fun i9 => nI (fTh (g i9))) = (fun i9 => nI (fTh (upF g k (fdLd j (g k)) i9))) from fl_same (g := g) (k := k) (r := (fdLd j (g k))) fTh rfl]), (h23_).trans (by rw [show (fun i9 => nI (fCo (g i9))) = (fun i9 => nI (fCo (upF g k (fdLd j (g k)) i9))) from fl_same (g := g) (k := k) (r := (fdLd j (g k))) fCo rfl])⟩, hNc, hGg.one hk (fdLd_ok hOk hj1 hj2), ⟨hn, hnow, hsl, by decide⟩⟩
      exact ⟨_, rfl, rfl, fun b q0 q1 q2 q3 q4 q5 q6 q7 => kc24_ b q0 q1, Or.inl ⟨k, j, hxk, hk, hvj, hj1, hj2, rfl, hmo2⟩⟩
    · -- 27 not taken
      refine z_aload_n C dX3_setLoad_30 rfl 0 rfl ?_
      refine z_iconst C (nI 2) dX3_setLoad_31 (by decide) ?_
      refine z_callV (As := [.int (nI 2)]) (st := []) (mc := 0) (ms := 0) C hLm h2_ rfl (c_X3_fails l hlst G L F1_ m0 c0 c1 c2 c3 c4 c5 c6 n now sl 0 g hmoT 2 (by decide)) (cwV 1 C.1.2.2.2.2 gX3_setLoad_X3_fails rfl rfl rfl (by decide +kernel) ⟨Nat.le_of_ble_eq_true rfl, Nat.le_of_ble_eq_true rfl⟩) rfl (Nat.le_of_ble_eq_true rfl) ⟨Nat.le_of_ble_eq_true rfl, Nat.le_of_ble_eq_true rfl⟩ dX3_setLoad_32 (fun rv9 L9 F9 hp9 => ?_)
      obtain ⟨e91, e92, hmo9, k9⟩ := hp9
      rw [e91, e92]
      refine z_stk (st' := [.int (nI 0)]) rfl ?_
      refine z_iret0 C rfl rfl (by decide) (by decide) dX3_setLoad_35 ?_
      exact ⟨_, rfl, rfl, fun b q0 q1 q2 q3 q4 q5 q6 q7 => (k9 b q0).trans (kc11_ b q0), Or.inr (Or.inr ⟨⟨by rw [hxk, zi_N (n := k) (by omega)]; omega, by rw [hxk, zi_N (n := k) (by omega)]; omega⟩, (fun h9 => (by obtain ⟨g1, g2⟩ := h9; omega)), hmo9⟩)⟩
  · -- 10 not taken
    refine z_aload_n C dX3_setLoad_13 rfl 0 rfl ?_
    refine z_iconst C (nI 1) dX3_setLoad_14 (by decide) ?_
    refine z_callV (As := [.int (nI 1)]) (st := []) (mc := 0) (ms := 0) C hLm h2_ rfl (c_X3_fails l hlst G L F1_ m0 c0 c1 c2 c3 c4 c5 c6 n now sl 0 g hmoT 1 (by decide)) (cwV 1 C.1.2.2.2.2 gX3_setLoad_X3_fails rfl rfl rfl (by decide +kernel) ⟨Nat.le_of_ble_eq_true rfl, Nat.le_of_ble_eq_true rfl⟩) rfl (Nat.le_of_ble_eq_true rfl) ⟨Nat.le_of_ble_eq_true rfl, Nat.le_of_ble_eq_true rfl⟩ dX3_setLoad_15 (fun rv9 L9 F9 hp9 => ?_)
    obtain ⟨e91, e92, hmo9, k9⟩ := hp9
    rw [e91, e92]
    refine z_stk (st' := [.int (nI 0)]) rfl ?_
    refine z_iret0 C rfl rfl (by decide) (by decide) dX3_setLoad_18 ?_
    exact ⟨_, rfl, rfl, fun b q0 q1 q2 q3 q4 q5 q6 q7 => (k9 b q0).trans (kc11_ b q0), Or.inr (Or.inl ⟨(fun h9 => (by obtain ⟨g1, g2⟩ := h9; omega)), hmo9⟩)⟩

set_option maxRecDepth 100000 in
theorem hin_X3_setCritical_X3 : ∀ w ∈ u_ws RX3 TX3 11, w ∈ wsX3_setCritical := by decide +kernel
set_option maxHeartbeats 4000000 in
set_option maxRecDepth 100000 in
theorem c_X3_setCritical (l : Launch) (hlst : l.stackTraces = false) (G : zGt) (L : List Nat) (F : Nat → va_E) (m0 c0 c1 c2 c3 c4 c5 c6 : Nat) (n now sl thr : Nat) (g : Nat → FdT) (hmo : zMo G L F m0 c0 c1 c2 c3 c4 c5 c6 n now sl thr g) (x : Int32) (c9 : Nat) (hc9 : c9 ≤ 1) : zM l yX3_setCritical wsX3_setCritical 3 67 0 0 G L F [.ref m0, .int x, .int (nI c9)] (fun rv L1 F1 => ∃ r : Int32, rv = some (.int r) ∧ L1 = L ∧ (∀ b, b ≠ m0 → b ≠ c0 → b ≠ c1 → b ≠ c2 → b ≠ c3 → b ≠ c4 → b ≠ c5 → b ≠ c6 → F1 b = F b) ∧ ((∃ k : Nat, x = nI k ∧ k < n ∧ r = nI (fCr (g k)) ∧ zMo G L F1 m0 c0 c1 c2 c3 c4 c5 c6 n now sl 0 ((upF g k (fdCr c9 (g k))))) ∨ (¬ zIx n x ∧ zMo G L F1 m0 c0 c1 c2 c3 c4 c5 c6 n now sl 1 g))) := by
  obtain ⟨⟨hLm, hLc0, hLc1, hLc2, hLc3, hLc4, hLc5, hLc6⟩, ⟨hFm, hFc0, hFc1, hFc2, hFc3, hFc4, hFc5, hFc6⟩, hNc, hGg, ⟨hn, hnow, hsl, hthr⟩⟩ := id hmo
  refine z_of (cc := cX3_setCritical) (nL := 4) (ret := (some .boolean)) (own := RX3) hlst (by decide +kernel) rfl rfl (Nat.le_of_ble_eq_true rfl) ?_
  intro p e s m below meth c A hnm C
  refine z_lvs (lv' := [(0, .ref m0), (1, .int x), (2, .int (nI c9))]) rfl ?_
  refine z_aload_n C dX3_setCritical_0 rfl 0 rfl ?_
  refine z_iconst C (nI 0) dX3_setCritical_1 (by decide) ?_
  refine z_put (ref := "ShedwheelModel") (v := .int (nI 0)) (fs' := [.ref c0, .ref c1, .ref c2, .ref c3, .ref c4, .ref c5, .ref c6, .int (nI n), .int (nI sl), .int (nI now), .int (nI 0)]) C hin_X3_setCritical_X3 tyX3 tyX3_ok nmX3 hLm hFm rfl 10 (by decide) (by decide +kernel) (fun _ h9 => h9) rfl rfl rfl (Nat.le_of_ble_eq_true rfl) rfl dX3_setCritical_2 (fun F1_ h2_ k3_ => ?_)
  have h4_ : F1_ c0 = .inl (G.2.1, 12, .inl (fun i9 => nI (fMw (g i9)))) := (k3_ c0 (zne hFc0 hFm rfl)).trans hFc0
  have h5_ : F1_ c1 = .inl (G.2.1, 12, .inl (fun i9 => nI (fCr (g i9)))) := (k3_ c1 (zne hFc1 hFm rfl)).trans hFc1
  have h6_ : F1_ c2 = .inl (G.2.1, 12, .inl (fun i9 => nI (fSg (g i9)))) := (k3_ c2 (zne hFc2 hFm rfl)).trans hFc2
  have h7_ : F1_ c3 = .inl (G.2.1, 12, .inl (fun i9 => nI (fOf (g i9)))) := (k3_ c3 (zne hFc3 hFm rfl)).trans hFc3
  have h8_ : F1_ c4 = .inl (G.2.1, 12, .inl (fun i9 => nI (fHo (g i9)))) := (k3_ c4 (zne hFc4 hFm rfl)).trans hFc4
  have h9_ : F1_ c5 = .inl (G.2.1, 12, .inl (fun i9 => nI (fTh (g i9)))) := (k3_ c5 (zne hFc5 hFm rfl)).trans hFc5
  have h10_ : F1_ c6 = .inl (G.2.1, 12, .inl (fun i9 => nI (fCo (g i9)))) := (k3_ c6 (zne hFc6 hFm rfl)).trans hFc6
  have kc11_ : ∀ b, b ≠ m0 → F1_ b = F b := fun b q0 => k3_ b q0
  have hmoT : zMo G L F1_ m0 c0 c1 c2 c3 c4 c5 c6 n now sl 0 g := ⟨⟨hLm, hLc0, hLc1, hLc2, hLc3, hLc4, hLc5, hLc6⟩, ⟨h2_, h4_, h5_, h6_, h7_, h8_, h9_, h10_⟩, hNc, hGg, ⟨hn, hnow, hsl, by omega⟩⟩
  refine z_aload_n C dX3_setCritical_5 rfl 0 rfl ?_
  refine z_iload_n C dX3_setCritical_6 rfl 1 rfl ?_
  refine z_callV (As := [.int x]) (st := []) (mc := 0) (ms := 0) C hLm h2_ rfl (c_X3_isThere l hlst G L F1_ m0 c0 c1 c2 c3 c4 c5 c6 n now sl 0 g hmoT x) (cwV 1 C.1.2.2.2.2 gX3_setCritical_X3_isThere rfl rfl rfl (by decide +kernel) ⟨Nat.le_of_ble_eq_true rfl, Nat.le_of_ble_eq_true rfl⟩) rfl (Nat.le_of_ble_eq_true rfl) ⟨Nat.le_of_ble_eq_true rfl, Nat.le_of_ble_eq_true rfl⟩ dX3_setCritical_7 (z_p ?_)
  refine z_stk (st' := [.int (nI (if 0 ≤ (x).toInt ∧ (x).toInt ≤ ((n : Nat) : Int) - 1 then 1 else 0))]) rfl ?_
  refine z_if_ne C 21 (¬ (0 ≤ (x).toInt ∧ (x).toInt ≤ ((n : Nat) : Int) - 1)) (zif_iff) dX3_setCritical_10 (by decide) (fun c12_ => ?_) (fun c12_ => ?_)
  · -- 10 taken
    obtain ⟨k, hxk, hk⟩ := zIx_of (n := n) (v := x) ⟨by omega, by omega⟩
    refine z_lvs (lv' := [(0, .ref m0), (1, .int (nI k)), (2, .int (nI c9))]) (by rw [hxk]) ?_
    have hOk := hGg.1 k hk
    obtain ⟨u1, u2, u3, u4, u5, u6, u7, u8⟩ := id hOk
    refine z_aload_n C dX3_setCritical_21 rfl 0 rfl ?_
    refine z_get (ref := "ShedwheelModel") (v := .ref c1) C hin_X3_setCritical_X3 hLm h2_ rfl 1 (by decide) (by decide +kernel) (fun _ h9 => h9) rfl dX3_setCritical_22 ?_
    refine z_iload_n C dX3_setCritical_25 rfl 1 rfl ?_
    refine z_iald C hLc1 h5_ (by omega) (by omega) dX3_setCritical_26 (nI (fCr (g k))) (rfl) ?_
    refine z_iconst C (nI 1) dX3_setCritical_27 (by decide) ?_
    refine z_icmp_ne C 35 (((fCr (g k) : Nat) : Int) = ((1 : Nat) : Int)) (zi_eq (zi_N (n := fCr (g k)) (by omega)) (zi_N (n := 1) (by omega))) dX3_setCritical_28 (by decide) (fun c13_ => ?_) (fun c13_ => ?_)
    · -- 28 taken
      refine z_iconst C (nI 0) dX3_setCritical_35 (by decide) ?_
      refine z_istore_n (lv' := [(3, .int (nI 0)), (0, .ref m0), (1, .int (nI k)), (2, .int (nI c9))]) C dX3_setCritical_36 rfl (by decide) rfl ?_
      refine z_aload_n C dX3_setCritical_37 rfl 1 rfl ?_
      refine z_get (ref := "ShedwheelModel") (v := .ref c1) C hin_X3_setCritical_X3 hLm h2_ rfl 1 (by decide) (by decide +kernel) (fun _ h9 => h9) rfl dX3_setCritical_38 ?_
      refine z_iload_n C dX3_setCritical_41 rfl 2 rfl ?_
      refine z_iload_n C dX3_setCritical_42 rfl 3 rfl ?_
      refine z_if_eq C 50 (((c9 : Nat) : Int) = (0 : Int)) (zi_eq (zi_N (n := c9) (by omega)) zi_0) dX3_setCritical_43 (by decide) (fun c14_ => ?_) (fun c14_ => ?_)
      · -- 43 taken
        refine z_iconst C (nI 0) dX3_setCritical_50 (by decide) ?_
        refine z_iast C hLc1 h5_ (by omega) (by omega) dX3_setCritical_51 (fun F15_ h16_ k17_ => ?_)
        have h18_ : F15_ m0 = .inr (4, [.ref c0, .ref c1, .ref c2, .ref c3, .ref c4, .ref c5, .ref c6, .int (nI n), .int (nI sl), .int (nI now), .int (nI 0)]) := (k17_ m0 (zne h2_ h5_ rfl)).trans h2_
        have h19_ : F15_ c0 = .inl (G.2.1, 12, .inl (fun i9 => nI (fMw (g i9)))) := (k17_ c0 hNc.1.1).trans h4_
        have h20_ : F15_ c2 = .inl (G.2.1, 12, .inl (fun i9 => nI (fSg (g i9)))) := (k17_ c2 (Ne.symm hNc.2.1.1)).trans h6_
        have h21_ : F15_ c3 = .inl (G.2.1, 12, .inl (fun i9 => nI (fOf (g i9)))) := (k17_ c3 (Ne.symm hNc.2.1.2.1)).trans h7_
        have h22_ : F15_ c4 = .inl (G.2.1, 12, .inl (fun i9 => nI (fHo (g i9)))) := (k17_ c4 (Ne.symm hNc.2.1.2.2.1)).trans h8_
        have h23_ : F15_ c5 = .inl (G.2.1, 12, .inl (fun i9 => nI (fTh (g i9)))) := (k17_ c5 (Ne.symm hNc.2.1.2.2.2.1)).trans h9_
        have h24_ : F15_ c6 = .inl (G.2.1, 12, .inl (fun i9 => nI (fCo (g i9)))) := (k17_ c6 (Ne.symm hNc.2.1.2.2.2.2)).trans h10_
        have kc25_ : ∀ b, b ≠ m0 → b ≠ c1 → F15_ b = F b := fun b q0 q1 => (k17_ b q1).trans (kc11_ b q0)
        refine z_iload_n C dX3_setCritical_52 rfl 0 rfl ?_
        refine z_iret0 C rfl rfl (by decide) (by decide) dX3_setCritical_53 ?_
        obtain rfl : c9 = 0 := by omega
        have hmo2 : zMo G L F15_ m0 c0 c1 c2 c3 c4 c5 c6 n now sl 0 (upF g k (fdCr 0 (g k))) := ⟨⟨hLm, hLc0, hLc1, hLc2, hLc3, hLc4, hLc5, hLc6⟩, ⟨h18_, (h19_).trans (by rw [show (fun i9 => nI (fMw (g i9))) = (fun i9 => nI (fMw (upF g k (fdCr 0 (g k)) i9))) from fl_same (g := g) (k := k) (r := (fdCr 0 (g k))) fMw rfl]), (h16_).trans (by rw [show (upd (fun i9 => nI (fCr (g i9))) k (nI 0)) = (fun i9 => nI (fCr (upF g k (fdCr 0 (g k)) i9))) from fl_upd (g := g) (k := k) (r := (fdCr 0 (g k))) fCr]), (h20_).trans (by rw [show (fun i9 => nI (fSg (g i9))) = (fun i9 => nI (fSg (upF g k (fdCr 0 (g k)) i9))) from fl_same (g := g) (k := k) (r := (fdCr 0 (g k))) fSg rfl]), (h21_).trans (by rw [show (fun i9 => nI (fOf (g i9))) = (fun i9 => nI (fOf (upF g k (fdCr 0 (g k)) i9))) from fl_same (g := g) (k := k) (r := (fdCr 0 (g k))) fOf rfl]), (h22_).trans (by rw [show (fun i9 => nI (fHo (g i9))) = (fun i9 => nI (fHo (upF g k (fdCr 0 (g k)) i9))) from fl_same (g := g) (k := k) (r := (fdCr 0 (g k))) fHo rfl]), (h23_).trans (by rw [show (fun i9 => nI (fTh (g i9))) = (fun i9 => nI (fTh (upF g k (fdCr 0 (g k)) i9))) from fl_same (g := g) (k := k) (r := (fdCr 0 (g k))) fTh rfl]), (h24_).trans (by rw [show (fun i9 => nI (fCo (g i9))) = (fun i9 => nI (fCo (upF g k (fdCr 0 (g k)) i9))) from fl_same (g := g) (k := k) (r := (fdCr 0 (g k))) fCo rfl])⟩, hNc, hGg.one hk (fdCr_ok hOk (by decide)), ⟨hn, hnow, hsl, by decide⟩⟩
        exact ⟨_, rfl, rfl, fun b q0 q1 q2 q3 q4 q5 q6 q7 => kc25_ b q0 q2, Or.inl ⟨k, hxk, hk, by rw [show fCr (g k) = 0 by omega], hmo2⟩⟩
      · -- 43 not taken
        refine z_iconst C (nI 1) dX3_setCritical_46 (by decide) ?_
        refine z_goto C 51 dX3_setCritical_47 (by decide) ?_
        refine z_iast C hLc1 h5_ (by omega) (by omega) dX3_setCritical_51 (fun F26_ h27_ k28_ => ?_)
        have h29_ : F26_ m0 = .inr (4, [.ref c0, .ref c1, .ref c2, .ref c3, .ref c4, .ref c5, .ref c6, .int (nI n), .int (nI sl), .int (nI now), .int (nI 0)]) := (k28_ m0 (zne h2_ h5_ rfl)).trans h2_
        have h30_ : F26_ c0 = .inl (G.2.1, 12, .inl (fun i9 => nI (fMw (g i9)))) := (k28_ c0 hNc.1.1).trans h4_
        have h31_ : F26_ c2 = .inl (G.2.1, 12, .inl (fun i9 => nI (fSg (g i9)))) := (k28_ c2 (Ne.symm hNc.2.1.1)).trans h6_
        have h32_ : F26_ c3 = .inl (G.2.1, 12, .inl (fun i9 => nI (fOf (g i9)))) := (k28_ c3 (Ne.symm hNc.2.1.2.1)).trans h7_
        have h33_ : F26_ c4 = .inl (G.2.1, 12, .inl (fun i9 => nI (fHo (g i9)))) := (k28_ c4 (Ne.symm hNc.2.1.2.2.1)).trans h8_
        have h34_ : F26_ c5 = .inl (G.2.1, 12, .inl (fun i9 => nI (fTh (g i9)))) := (k28_ c5 (Ne.symm hNc.2.1.2.2.2.1)).trans h9_
        have h35_ : F26_ c6 = .inl (G.2.1, 12, .inl (fun i9 => nI (fCo (g i9)))) := (k28_ c6 (Ne.symm hNc.2.1.2.2.2.2)).trans h10_
        have kc36_ : ∀ b, b ≠ m0 → b ≠ c1 → F26_ b = F b := fun b q0 q1 => (k28_ b q1).trans (kc11_ b q0)
        refine z_iload_n C dX3_setCritical_52 rfl 0 rfl ?_
        refine z_iret0 C rfl rfl (by decide) (by decide) dX3_setCritical_53 ?_
        obtain rfl : c9 = 1 := by omega
        have hmo2 : zMo G L F26_ m0 c0 c1 c2 c3 c4 c5 c6 n now sl 0 (upF g k (fdCr 1 (g k))) := ⟨⟨hLm, hLc0, hLc1, hLc2, hLc3, hLc4, hLc5, hLc6⟩, ⟨h29_, (h30_).trans (by rw [show (fun i9 => nI (fMw (g i9))) = (fun i9 => nI (fMw (upF g k (fdCr 1 (g k)) i9))) from fl_same (g := g) (k := k) (r := (fdCr 1 (g k))) fMw rfl]), (h27_).trans (by rw [show (upd (fun i9 => nI (fCr (g i9))) k (nI 1)) = (fun i9 => nI (fCr (upF g k (fdCr 1 (g k)) i9))) from fl_upd (g := g) (k := k) (r := (fdCr 1 (g k))) fCr]), (h31_).trans (by rw [show (fun i9 => nI (fSg (g i9))) = (fun i9 => nI (fSg (upF g k (fdCr 1 (g k)) i9))) from fl_same (g := g) (k := k) (r := (fdCr 1 (g k))) fSg rfl]), (h32_).trans (by rw [show (fun i9 => nI (fOf (g i9))) = (fun i9 => nI (fOf (upF g k (fdCr 1 (g k)) i9))) from fl_same (g := g) (k := k) (r := (fdCr 1 (g k))) fOf rfl]), (h33_).trans (by rw [show (fun i9 => nI (fHo (g i9))) = (fun i9 => nI (fHo (upF g k (fdCr 1 (g k)) i9))) from fl_same (g := g) (k := k) (r := (fdCr 1 (g k))) fHo rfl]), (h34_).trans (by rw [show (fun i9 => nI (fTh (g i9))) = (fun i9 => nI (fTh (upF g k (fdCr 1 (g k)) i9))) from fl_same (g := g) (k := k) (r := (fdCr 1 (g k))) fTh rfl]), (h35_).trans (by rw [show (fun i9 => nI (fCo (g i9))) = (fun i9 => nI (fCo (upF g k (fdCr 1 (g k)) i9))) from fl_same (g := g) (k := k) (r := (fdCr 1 (g k))) fCo rfl])⟩, hNc, hGg.one hk (fdCr_ok hOk (by decide)), ⟨hn, hnow, hsl, by decide⟩⟩
        exact ⟨_, rfl, rfl, fun b q0 q1 q2 q3 q4 q5 q6 q7 => kc36_ b q0 q2, Or.inl ⟨k, hxk, hk, by rw [show fCr (g k) = 0 by omega], hmo2⟩⟩
    · -- 28 not taken
      refine z_iconst C (nI 1) dX3_setCritical_31 (by decide) ?_
      refine z_goto C 36 dX3_setCritical_32 (by decide) ?_
      refine z_istore_n (lv' := [(3, .int (nI 1)), (0, .ref m0), (1, .int (nI k)), (2, .int (nI c9))]) C dX3_setCritical_36 rfl (by decide) rfl ?_
      refine z_aload_n C dX3_setCritical_37 rfl 1 rfl ?_
      refine z_get (ref := "ShedwheelModel") (v := .ref c1) C hin_X3_setCritical_X3 hLm h2_ rfl 1 (by decide) (by decide +kernel) (fun _ h9 => h9) rfl dX3_setCritical_38 ?_
      refine z_iload_n C dX3_setCritical_41 rfl 2 rfl ?_
      refine z_iload_n C dX3_setCritical_42 rfl 3 rfl ?_
      refine z_if_eq C 50 (((c9 : Nat) : Int) = (0 : Int)) (zi_eq (zi_N (n := c9) (by omega)) zi_0) dX3_setCritical_43 (by decide) (fun c37_ => ?_) (fun c37_ => ?_)
      · -- 43 taken
        refine z_iconst C (nI 0) dX3_setCritical_50 (by decide) ?_
        refine z_iast C hLc1 h5_ (by omega) (by omega) dX3_setCritical_51 (fun F38_ h39_ k40_ => ?_)
        have h41_ : F38_ m0 = .inr (4, [.ref c0, .ref c1, .ref c2, .ref c3, .ref c4, .ref c5, .ref c6, .int (nI n), .int (nI sl), .int (nI now), .int (nI 0)]) := (k40_ m0 (zne h2_ h5_ rfl)).trans h2_
        have h42_ : F38_ c0 = .inl (G.2.1, 12, .inl (fun i9 => nI (fMw (g i9)))) := (k40_ c0 hNc.1.1).trans h4_
        have h43_ : F38_ c2 = .inl (G.2.1, 12, .inl (fun i9 => nI (fSg (g i9)))) := (k40_ c2 (Ne.symm hNc.2.1.1)).trans h6_
        have h44_ : F38_ c3 = .inl (G.2.1, 12, .inl (fun i9 => nI (fOf (g i9)))) := (k40_ c3 (Ne.symm hNc.2.1.2.1)).trans h7_
        have h45_ : F38_ c4 = .inl (G.2.1, 12, .inl (fun i9 => nI (fHo (g i9)))) := (k40_ c4 (Ne.symm hNc.2.1.2.2.1)).trans h8_
        have h46_ : F38_ c5 = .inl (G.2.1, 12, .inl (fun i9 => nI (fTh (g i9)))) := (k40_ c5 (Ne.symm hNc.2.1.2.2.2.1)).trans h9_
        have h47_ : F38_ c6 = .inl (G.2.1, 12, .inl (fun i9 => nI (fCo (g i9)))) := (k40_ c6 (Ne.symm hNc.2.1.2.2.2.2)).trans h10_
        have kc48_ : ∀ b, b ≠ m0 → b ≠ c1 → F38_ b = F b := fun b q0 q1 => (k40_ b q1).trans (kc11_ b q0)
        refine z_iload_n C dX3_setCritical_52 rfl 0 rfl ?_
        refine z_iret0 C rfl rfl (by decide) (by decide) dX3_setCritical_53 ?_
        obtain rfl : c9 = 0 := by omega
        have hmo2 : zMo G L F38_ m0 c0 c1 c2 c3 c4 c5 c6 n now sl 0 (upF g k (fdCr 0 (g k))) := ⟨⟨hLm, hLc0, hLc1, hLc2, hLc3, hLc4, hLc5, hLc6⟩, ⟨h41_, (h42_).trans (by rw [show (fun i9 => nI (fMw (g i9))) = (fun i9 => nI (fMw (upF g k (fdCr 0 (g k)) i9))) from fl_same (g := g) (k := k) (r := (fdCr 0 (g k))) fMw rfl]), (h39_).trans (by rw [show (upd (fun i9 => nI (fCr (g i9))) k (nI 0)) = (fun i9 => nI (fCr (upF g k (fdCr 0 (g k)) i9))) from fl_upd (g := g) (k := k) (r := (fdCr 0 (g k))) fCr]), (h43_).trans (by rw [show (fun i9 => nI (fSg (g i9))) = (fun i9 => nI (fSg (upF g k (fdCr 0 (g k)) i9))) from fl_same (g := g) (k := k) (r := (fdCr 0 (g k))) fSg rfl]), (h44_).trans (by rw [show (fun i9 => nI (fOf (g i9))) = (fun i9 => nI (fOf (upF g k (fdCr 0 (g k)) i9))) from fl_same (g := g) (k := k) (r := (fdCr 0 (g k))) fOf rfl]), (h45_).trans (by rw [show (fun i9 => nI (fHo (g i9))) = (fun i9 => nI (fHo (upF g k (fdCr 0 (g k)) i9))) from fl_same (g := g) (k := k) (r := (fdCr 0 (g k))) fHo rfl]), (h46_).trans (by rw [show (fun i9 => nI (fTh (g i9))) = (fun i9 => nI (fTh (upF g k (fdCr 0 (g k)) i9))) from fl_same (g := g) (k := k) (r := (fdCr 0 (g k))) fTh rfl]), (h47_).trans (by rw [show (fun i9 => nI (fCo (g i9))) = (fun i9 => nI (fCo (upF g k (fdCr 0 (g k)) i9))) from fl_same (g := g) (k := k) (r := (fdCr 0 (g k))) fCo rfl])⟩, hNc, hGg.one hk (fdCr_ok hOk (by decide)), ⟨hn, hnow, hsl, by decide⟩⟩
        exact ⟨_, rfl, rfl, fun b q0 q1 q2 q3 q4 q5 q6 q7 => kc48_ b q0 q2, Or.inl ⟨k, hxk, hk, by rw [show fCr (g k) = 1 by omega], hmo2⟩⟩
      · -- 43 not taken
        refine z_iconst C (nI 1) dX3_setCritical_46 (by decide) ?_
        refine z_goto C 51 dX3_setCritical_47 (by decide) ?_
        refine z_iast C hLc1 h5_ (by omega) (by omega) dX3_setCritical_51 (fun F49_ h50_ k51_ => ?_)
        have h52_ : F49_ m0 = .inr (4, [.ref c0, .ref c1, .ref c2, .ref c3, .ref c4, .ref c5, .ref c6, .int (nI n), .int (nI sl), .int (nI now), .int (nI 0)]) := (k51_ m0 (zne h2_ h5_ rfl)).trans h2_
        have h53_ : F49_ c0 = .inl (G.2.1, 12, .inl (fun i9 => nI (fMw (g i9)))) := (k51_ c0 hNc.1.1).trans h4_
        have h54_ : F49_ c2 = .inl (G.2.1, 12, .inl (fun i9 => nI (fSg (g i9)))) := (k51_ c2 (Ne.symm hNc.2.1.1)).trans h6_
        have h55_ : F49_ c3 = .inl (G.2.1, 12, .inl (fun i9 => nI (fOf (g i9)))) := (k51_ c3 (Ne.symm hNc.2.1.2.1)).trans h7_
        have h56_ : F49_ c4 = .inl (G.2.1, 12, .inl (fun i9 => nI (fHo (g i9)))) := (k51_ c4 (Ne.symm hNc.2.1.2.2.1)).trans h8_
        have h57_ : F49_ c5 = .inl (G.2.1, 12, .inl (fun i9 => nI (fTh (g i9)))) := (k51_ c5 (Ne.symm hNc.2.1.2.2.2.1)).trans h9_
        have h58_ : F49_ c6 = .inl (G.2.1, 12, .inl (fun i9 => nI (fCo (g i9)))) := (k51_ c6 (Ne.symm hNc.2.1.2.2.2.2)).trans h10_
        have kc59_ : ∀ b, b ≠ m0 → b ≠ c1 → F49_ b = F b := fun b q0 q1 => (k51_ b q1).trans (kc11_ b q0)
        refine z_iload_n C dX3_setCritical_52 rfl 0 rfl ?_
        refine z_iret0 C rfl rfl (by decide) (by decide) dX3_setCritical_53 ?_
        obtain rfl : c9 = 1 := by omega
        have hmo2 : zMo G L F49_ m0 c0 c1 c2 c3 c4 c5 c6 n now sl 0 (upF g k (fdCr 1 (g k))) := ⟨⟨hLm, hLc0, hLc1, hLc2, hLc3, hLc4, hLc5, hLc6⟩, ⟨h52_, (h53_).trans (by rw [show (fun i9 => nI (fMw (g i9))) = (fun i9 => nI (fMw (upF g k (fdCr 1 (g k)) i9))) from fl_same (g := g) (k := k) (r := (fdCr 1 (g k))) fMw rfl]), (h50_).trans (by rw [show (upd (fun i9 => nI (fCr (g i9))) k (nI 1)) = (fun i9 => nI (fCr (upF g k (fdCr 1 (g k)) i9))) from fl_upd (g := g) (k := k) (r := (fdCr 1 (g k))) fCr]), (h54_).trans (by rw [show (fun i9 => nI (fSg (g i9))) = (fun i9 => nI (fSg (upF g k (fdCr 1 (g k)) i9))) from fl_same (g := g) (k := k) (r := (fdCr 1 (g k))) fSg rfl]), (h55_).trans (by rw [show (fun i9 => nI (fOf (g i9))) = (fun i9 => nI (fOf (upF g k (fdCr 1 (g k)) i9))) from fl_same (g := g) (k := k) (r := (fdCr 1 (g k))) fOf rfl]), (h56_).trans (by rw [show (fun i9 => nI (fHo (g i9))) = (fun i9 => nI (fHo (upF g k (fdCr 1 (g k)) i9))) from fl_same (g := g) (k := k) (r := (fdCr 1 (g k))) fHo rfl]), (h57_).trans (by rw [show (fun i9 => nI (fTh (g i9))) = (fun i9 => nI (fTh (upF g k (fdCr 1 (g k)) i9))) from fl_same (g := g) (k := k) (r := (fdCr 1 (g k))) fTh rfl]), (h58_).trans (by rw [show (fun i9 => nI (fCo (g i9))) = (fun i9 => nI (fCo (upF g k (fdCr 1 (g k)) i9))) from fl_same (g := g) (k := k) (r := (fdCr 1 (g k))) fCo rfl])⟩, hNc, hGg.one hk (fdCr_ok hOk (by decide)), ⟨hn, hnow, hsl, by decide⟩⟩
        exact ⟨_, rfl, rfl, fun b q0 q1 q2 q3 q4 q5 q6 q7 => kc59_ b q0 q2, Or.inl ⟨k, hxk, hk, by rw [show fCr (g k) = 1 by omega], hmo2⟩⟩
  · -- 10 not taken
    refine z_aload_n C dX3_setCritical_13 rfl 0 rfl ?_
    refine z_iconst C (nI 1) dX3_setCritical_14 (by decide) ?_
    refine z_callV (As := [.int (nI 1)]) (st := []) (mc := 0) (ms := 0) C hLm h2_ rfl (c_X3_fails l hlst G L F1_ m0 c0 c1 c2 c3 c4 c5 c6 n now sl 0 g hmoT 1 (by decide)) (cwV 1 C.1.2.2.2.2 gX3_setCritical_X3_fails rfl rfl rfl (by decide +kernel) ⟨Nat.le_of_ble_eq_true rfl, Nat.le_of_ble_eq_true rfl⟩) rfl (Nat.le_of_ble_eq_true rfl) ⟨Nat.le_of_ble_eq_true rfl, Nat.le_of_ble_eq_true rfl⟩ dX3_setCritical_15 (fun rv9 L9 F9 hp9 => ?_)
    obtain ⟨e91, e92, hmo9, k9⟩ := hp9
    rw [e91, e92]
    refine z_stk (st' := [.int (nI 0)]) rfl ?_
    refine z_pop C dX3_setCritical_18 rfl ?_
    refine z_iconst C (nI 0) dX3_setCritical_19 (by decide) ?_
    refine z_iret0 C rfl rfl (by decide) (by decide) dX3_setCritical_20 ?_
    exact ⟨_, rfl, rfl, fun b q0 q1 q2 q3 q4 q5 q6 q7 => (k9 b q0).trans (kc11_ b q0), Or.inr ⟨(fun h9 => (by obtain ⟨g1, g2⟩ := h9; omega)), hmo9⟩⟩

set_option maxRecDepth 100000 in
theorem hin_X3_setSlack_X3 : ∀ w ∈ u_ws RX3 TX3 11, w ∈ wsX3_setSlack := by decide +kernel
set_option maxHeartbeats 4000000 in
set_option maxRecDepth 100000 in
theorem c_X3_setSlack (l : Launch) (hlst : l.stackTraces = false) (G : zGt) (L : List Nat) (F : Nat → va_E) (m0 c0 c1 c2 c3 c4 c5 c6 : Nat) (n now sl thr : Nat) (g : Nat → FdT) (hmo : zMo G L F m0 c0 c1 c2 c3 c4 c5 c6 n now sl thr g) (v : Int32) : zM l yX3_setSlack wsX3_setSlack 2 46 0 0 G L F [.ref m0, .int v] (fun rv L1 F1 => ∃ r : Int32, rv = some (.int r) ∧ L1 = L ∧ (∀ b, b ≠ m0 → b ≠ c0 → b ≠ c1 → b ≠ c2 → b ≠ c3 → b ≠ c4 → b ≠ c5 → b ≠ c6 → F1 b = F b) ∧ ((∃ j : Nat, v = nI j ∧ j ≤ 999 ∧ r = nI sl ∧ zMo G L F1 m0 c0 c1 c2 c3 c4 c5 c6 n now j 0 g) ∨ (¬ zIn 0 999 v ∧ zMo G L F1 m0 c0 c1 c2 c3 c4 c5 c6 n now sl 1 g))) := by
  obtain ⟨⟨hLm, hLc0, hLc1, hLc2, hLc3, hLc4, hLc5, hLc6⟩, ⟨hFm, hFc0, hFc1, hFc2, hFc3, hFc4, hFc5, hFc6⟩, hNc, hGg, ⟨hn, hnow, hsl, hthr⟩⟩ := id hmo
  refine z_of (cc := cX3_setSlack) (nL := 3) (ret := (some .int)) (own := RX3) hlst (by decide +kernel) rfl rfl (Nat.le_of_ble_eq_true rfl) ?_
  intro p e s m below meth c A hnm C
  refine z_lvs (lv' := [(0, .ref m0), (1, .int v)]) rfl ?_
  refine z_aload_n C dX3_setSlack_0 rfl 0 rfl ?_
  refine z_iconst C (nI 0) dX3_setSlack_1 (by decide) ?_
  refine z_put (ref := "ShedwheelModel") (v := .int (nI 0)) (fs' := [.ref c0, .ref c1, .ref c2, .ref c3, .ref c4, .ref c5, .ref c6, .int (nI n), .int (nI sl), .int (nI now), .int (nI 0)]) C hin_X3_setSlack_X3 tyX3 tyX3_ok nmX3 hLm hFm rfl 10 (by decide) (by decide +kernel) (fun _ h9 => h9) rfl rfl rfl (Nat.le_of_ble_eq_true rfl) rfl dX3_setSlack_2 (fun F1_ h2_ k3_ => ?_)
  have h4_ : F1_ c0 = .inl (G.2.1, 12, .inl (fun i9 => nI (fMw (g i9)))) := (k3_ c0 (zne hFc0 hFm rfl)).trans hFc0
  have h5_ : F1_ c1 = .inl (G.2.1, 12, .inl (fun i9 => nI (fCr (g i9)))) := (k3_ c1 (zne hFc1 hFm rfl)).trans hFc1
  have h6_ : F1_ c2 = .inl (G.2.1, 12, .inl (fun i9 => nI (fSg (g i9)))) := (k3_ c2 (zne hFc2 hFm rfl)).trans hFc2
  have h7_ : F1_ c3 = .inl (G.2.1, 12, .inl (fun i9 => nI (fOf (g i9)))) := (k3_ c3 (zne hFc3 hFm rfl)).trans hFc3
  have h8_ : F1_ c4 = .inl (G.2.1, 12, .inl (fun i9 => nI (fHo (g i9)))) := (k3_ c4 (zne hFc4 hFm rfl)).trans hFc4
  have h9_ : F1_ c5 = .inl (G.2.1, 12, .inl (fun i9 => nI (fTh (g i9)))) := (k3_ c5 (zne hFc5 hFm rfl)).trans hFc5
  have h10_ : F1_ c6 = .inl (G.2.1, 12, .inl (fun i9 => nI (fCo (g i9)))) := (k3_ c6 (zne hFc6 hFm rfl)).trans hFc6
  have kc11_ : ∀ b, b ≠ m0 → F1_ b = F b := fun b q0 => k3_ b q0
  have hmoT : zMo G L F1_ m0 c0 c1 c2 c3 c4 c5 c6 n now sl 0 g := ⟨⟨hLm, hLc0, hLc1, hLc2, hLc3, hLc4, hLc5, hLc6⟩, ⟨h2_, h4_, h5_, h6_, h7_, h8_, h9_, h10_⟩, hNc, hGg, ⟨hn, hnow, hsl, by omega⟩⟩
  refine z_iload_n C dX3_setSlack_5 rfl 1 rfl ?_
  refine z_iconst C (nI 0) dX3_setSlack_6 (by decide) ?_
  refine z_sipush C (nI 999) dX3_setSlack_7 (by decide) ?_
  refine z_callS (As := [.int v, .int (nI 0), .int (nI 999)]) (st := []) (mc := 0) (ms := 0) C (c_X3_in l hlst G L F1_ v (nI 0) (nI 999) (((0 : Nat) : Int)) (((999 : Nat) : Int)) (zi_N (n := 0) (by omega)) (zi_N (n := 999) (by omega))) (va_cwS 3 C.1.2.2.2.2 gX3_setSlack_X3_in rfl rfl rfl (by decide +kernel) ⟨Nat.le_of_ble_eq_true rfl, Nat.le_of_ble_eq_true rfl⟩) rfl (Nat.le_of_ble_eq_true rfl) ⟨Nat.le_of_ble_eq_true rfl, Nat.le_of_ble_eq_true rfl⟩ dX3_setSlack_10 (z_p ?_)
  refine z_stk (st' := [.int (nI (if ((0 : Nat) : Int) ≤ (v).toInt ∧ (v).toInt ≤ ((999 : Nat) : Int) then 1 else 0))]) rfl ?_
  refine z_if_ne C 22 (¬ (((0 : Nat) : Int) ≤ (v).toInt ∧ (v).toInt ≤ ((999 : Nat) : Int))) (zif_iff) dX3_setSlack_13 (by decide) (fun c12_ => ?_) (fun c12_ => ?_)
  · -- 13 taken
    obtain ⟨j, hvj, hj1, hj2⟩ := zIn_of (lo := 0) (hi := 999) (v := v) ⟨by omega, by omega⟩
    refine z_lvs (lv' := [(0, .ref m0), (1, .int (nI j))]) (by rw [hvj]) ?_
    refine z_aload_n C dX3_setSlack_22 rfl 0 rfl ?_
    refine z_get (ref := "ShedwheelModel") (v := .int (nI sl)) C hin_X3_setSlack_X3 hLm h2_ rfl 8 (by decide) (by decide +kernel) (fun _ h9 => h9) rfl dX3_setSlack_23 ?_
    refine z_istore_n (lv' := [(2, .int (nI sl)), (0, .ref m0), (1, .int (nI j))]) C dX3_setSlack_26 rfl (by decide) rfl ?_
    refine z_aload_n C dX3_setSlack_27 rfl 1 rfl ?_
    refine z_iload_n C dX3_setSlack_28 rfl 2 rfl ?_
    refine z_put (ref := "ShedwheelModel") (v := .int (nI j)) (fs' := [.ref c0, .ref c1, .ref c2, .ref c3, .ref c4, .ref c5, .ref c6, .int (nI n), .int (nI j), .int (nI now), .int (nI 0)]) C hin_X3_setSlack_X3 tyX3 tyX3_ok nmX3 hLm h2_ rfl 8 (by decide) (by decide +kernel) (fun _ h9 => h9) rfl rfl rfl (Nat.le_of_ble_eq_true rfl) rfl dX3_setSlack_29 (fun F13_ h14_ k15_ => ?_)
    have h16_ : F13_ c0 = .inl (G.2.1, 12, .inl (fun i9 => nI (fMw (g i9)))) := (k15_ c0 (zne h4_ h2_ rfl)).trans h4_
    have h17_ : F13_ c1 = .inl (G.2.1, 12, .inl (fun i9 => nI (fCr (g i9)))) := (k15_ c1 (zne h5_ h2_ rfl)).trans h5_
    have h18_ : F13_ c2 = .inl (G.2.1, 12, .inl (fun i9 => nI (fSg (g i9)))) := (k15_ c2 (zne h6_ h2_ rfl)).trans h6_
    have h19_ : F13_ c3 = .inl (G.2.1, 12, .inl (fun i9 => nI (fOf (g i9)))) := (k15_ c3 (zne h7_ h2_ rfl)).trans h7_
    have h20_ : F13_ c4 = .inl (G.2.1, 12, .inl (fun i9 => nI (fHo (g i9)))) := (k15_ c4 (zne h8_ h2_ rfl)).trans h8_
    have h21_ : F13_ c5 = .inl (G.2.1, 12, .inl (fun i9 => nI (fTh (g i9)))) := (k15_ c5 (zne h9_ h2_ rfl)).trans h9_
    have h22_ : F13_ c6 = .inl (G.2.1, 12, .inl (fun i9 => nI (fCo (g i9)))) := (k15_ c6 (zne h10_ h2_ rfl)).trans h10_
    have kc23_ : ∀ b, b ≠ m0 → F13_ b = F b := fun b q0 => (k15_ b q0).trans (kc11_ b q0)
    refine z_iload_n C dX3_setSlack_32 rfl 0 rfl ?_
    refine z_iret0 C rfl rfl (by decide) (by decide) dX3_setSlack_33 ?_
    have hmo2 : zMo G L F13_ m0 c0 c1 c2 c3 c4 c5 c6 n now j 0 g := ⟨⟨hLm, hLc0, hLc1, hLc2, hLc3, hLc4, hLc5, hLc6⟩, ⟨h14_, h16_, h17_, h18_, h19_, h20_, h21_, h22_⟩, hNc, hGg, ⟨hn, hnow, hj2, by decide⟩⟩
    exact ⟨_, rfl, rfl, fun b q0 q1 q2 q3 q4 q5 q6 q7 => kc23_ b q0, Or.inl ⟨j, hvj, hj2, rfl, hmo2⟩⟩
  · -- 13 not taken
    refine z_aload_n C dX3_setSlack_16 rfl 0 rfl ?_
    refine z_iconst C (nI 1) dX3_setSlack_17 (by decide) ?_
    refine z_callV (As := [.int (nI 1)]) (st := []) (mc := 0) (ms := 0) C hLm h2_ rfl (c_X3_fails l hlst G L F1_ m0 c0 c1 c2 c3 c4 c5 c6 n now sl 0 g hmoT 1 (by decide)) (cwV 1 C.1.2.2.2.2 gX3_setSlack_X3_fails rfl rfl rfl (by decide +kernel) ⟨Nat.le_of_ble_eq_true rfl, Nat.le_of_ble_eq_true rfl⟩) rfl (Nat.le_of_ble_eq_true rfl) ⟨Nat.le_of_ble_eq_true rfl, Nat.le_of_ble_eq_true rfl⟩ dX3_setSlack_18 (fun rv9 L9 F9 hp9 => ?_)
    obtain ⟨e91, e92, hmo9, k9⟩ := hp9
    rw [e91, e92]
    refine z_stk (st' := [.int (nI 0)]) rfl ?_
    refine z_iret0 C rfl rfl (by decide) (by decide) dX3_setSlack_21 ?_
    exact ⟨_, rfl, rfl, fun b q0 q1 q2 q3 q4 q5 q6 q7 => (k9 b q0).trans (kc11_ b q0), Or.inr ⟨(fun h9 => (by obtain ⟨g1, g2⟩ := h9; omega)), hmo9⟩⟩

set_option maxRecDepth 100000 in
theorem hin_X3_restore_X3 : ∀ w ∈ u_ws RX3 TX3 11, w ∈ wsX3_restore := by decide +kernel
set_option maxHeartbeats 4000000 in
set_option maxRecDepth 100000 in
theorem c_X3_restore (l : Launch) (hlst : l.stackTraces = false) (G : zGt) (L : List Nat) (F : Nat → va_E) (m0 c0 c1 c2 c3 c4 c5 c6 : Nat) (n now sl thr : Nat) (g : Nat → FdT) (hmo : zMo G L F m0 c0 c1 c2 c3 c4 c5 c6 n now sl thr g) (x : Int32) : zM l yX3_restore wsX3_restore 3 67 0 0 G L F [.ref m0, .int x] (fun rv L1 F1 => ∃ r : Int32, rv = some (.int r) ∧ L1 = L ∧ (∀ b, b ≠ m0 → b ≠ c0 → b ≠ c1 → b ≠ c2 → b ≠ c3 → b ≠ c4 → b ≠ c5 → b ≠ c6 → F1 b = F b) ∧ ((∃ k : Nat, x = nI k ∧ k < n ∧ fOf (g k) = 1 ∧ r = nI (fTk (fBb (g k))) ∧ zMo G L F1 m0 c0 c1 c2 c3 c4 c5 c6 n now sl 0 ((upF g k (fBb (g k))))) ∨ (¬ zIx n x ∧ zMo G L F1 m0 c0 c1 c2 c3 c4 c5 c6 n now sl 1 g) ∨ (∃ k : Nat, x = nI k ∧ k < n ∧ fOf (g k) = 0 ∧ zMo G L F1 m0 c0 c1 c2 c3 c4 c5 c6 n now sl 2 g))) := by
  obtain ⟨⟨hLm, hLc0, hLc1, hLc2, hLc3, hLc4, hLc5, hLc6⟩, ⟨hFm, hFc0, hFc1, hFc2, hFc3, hFc4, hFc5, hFc6⟩, hNc, hGg, ⟨hn, hnow, hsl, hthr⟩⟩ := id hmo
  refine z_of (cc := cX3_restore) (nL := 2) (ret := (some .int)) (own := RX3) hlst (by decide +kernel) rfl rfl (Nat.le_of_ble_eq_true rfl) ?_
  intro p e s m below meth c A hnm C
  refine z_lvs (lv' := [(0, .ref m0), (1, .int x)]) rfl ?_
  refine z_aload_n C dX3_restore_0 rfl 0 rfl ?_
  refine z_iconst C (nI 0) dX3_restore_1 (by decide) ?_
  refine z_put (ref := "ShedwheelModel") (v := .int (nI 0)) (fs' := [.ref c0, .ref c1, .ref c2, .ref c3, .ref c4, .ref c5, .ref c6, .int (nI n), .int (nI sl), .int (nI now), .int (nI 0)]) C hin_X3_restore_X3 tyX3 tyX3_ok nmX3 hLm hFm rfl 10 (by decide) (by decide +kernel) (fun _ h9 => h9) rfl rfl rfl (Nat.le_of_ble_eq_true rfl) rfl dX3_restore_2 (fun F1_ h2_ k3_ => ?_)
  have h4_ : F1_ c0 = .inl (G.2.1, 12, .inl (fun i9 => nI (fMw (g i9)))) := (k3_ c0 (zne hFc0 hFm rfl)).trans hFc0
  have h5_ : F1_ c1 = .inl (G.2.1, 12, .inl (fun i9 => nI (fCr (g i9)))) := (k3_ c1 (zne hFc1 hFm rfl)).trans hFc1
  have h6_ : F1_ c2 = .inl (G.2.1, 12, .inl (fun i9 => nI (fSg (g i9)))) := (k3_ c2 (zne hFc2 hFm rfl)).trans hFc2
  have h7_ : F1_ c3 = .inl (G.2.1, 12, .inl (fun i9 => nI (fOf (g i9)))) := (k3_ c3 (zne hFc3 hFm rfl)).trans hFc3
  have h8_ : F1_ c4 = .inl (G.2.1, 12, .inl (fun i9 => nI (fHo (g i9)))) := (k3_ c4 (zne hFc4 hFm rfl)).trans hFc4
  have h9_ : F1_ c5 = .inl (G.2.1, 12, .inl (fun i9 => nI (fTh (g i9)))) := (k3_ c5 (zne hFc5 hFm rfl)).trans hFc5
  have h10_ : F1_ c6 = .inl (G.2.1, 12, .inl (fun i9 => nI (fCo (g i9)))) := (k3_ c6 (zne hFc6 hFm rfl)).trans hFc6
  have kc11_ : ∀ b, b ≠ m0 → F1_ b = F b := fun b q0 => k3_ b q0
  have hmoT : zMo G L F1_ m0 c0 c1 c2 c3 c4 c5 c6 n now sl 0 g := ⟨⟨hLm, hLc0, hLc1, hLc2, hLc3, hLc4, hLc5, hLc6⟩, ⟨h2_, h4_, h5_, h6_, h7_, h8_, h9_, h10_⟩, hNc, hGg, ⟨hn, hnow, hsl, by omega⟩⟩
  refine z_aload_n C dX3_restore_5 rfl 0 rfl ?_
  refine z_iload_n C dX3_restore_6 rfl 1 rfl ?_
  refine z_callV (As := [.int x]) (st := []) (mc := 0) (ms := 0) C hLm h2_ rfl (c_X3_isThere l hlst G L F1_ m0 c0 c1 c2 c3 c4 c5 c6 n now sl 0 g hmoT x) (cwV 1 C.1.2.2.2.2 gX3_restore_X3_isThere rfl rfl rfl (by decide +kernel) ⟨Nat.le_of_ble_eq_true rfl, Nat.le_of_ble_eq_true rfl⟩) rfl (Nat.le_of_ble_eq_true rfl) ⟨Nat.le_of_ble_eq_true rfl, Nat.le_of_ble_eq_true rfl⟩ dX3_restore_7 (z_p ?_)
  refine z_stk (st' := [.int (nI (if 0 ≤ (x).toInt ∧ (x).toInt ≤ ((n : Nat) : Int) - 1 then 1 else 0))]) rfl ?_
  refine z_if_ne C 19 (¬ (0 ≤ (x).toInt ∧ (x).toInt ≤ ((n : Nat) : Int) - 1)) (zif_iff) dX3_restore_10 (by decide) (fun c12_ => ?_) (fun c12_ => ?_)
  · -- 10 taken
    obtain ⟨k, hxk, hk⟩ := zIx_of (n := n) (v := x) ⟨by omega, by omega⟩
    refine z_lvs (lv' := [(0, .ref m0), (1, .int (nI k))]) (by rw [hxk]) ?_
    have hOk := hGg.1 k hk
    obtain ⟨u1, u2, u3, u4, u5, u6, u7, u8⟩ := id hOk
    refine z_aload_n C dX3_restore_19 rfl 0 rfl ?_
    refine z_get (ref := "ShedwheelModel") (v := .ref c3) C hin_X3_restore_X3 hLm h2_ rfl 3 (by decide) (by decide +kernel) (fun _ h9 => h9) rfl dX3_restore_20 ?_
    refine z_iload_n C dX3_restore_23 rfl 1 rfl ?_
    refine z_iald C hLc3 h7_ (by omega) (by omega) dX3_restore_24 (nI (fOf (g k))) (rfl) ?_
    refine z_if_ne C 34 (((fOf (g k) : Nat) : Int) = (0 : Int)) (zi_eq (zi_N (n := fOf (g k)) (by omega)) zi_0) dX3_restore_25 (by decide) (fun c13_ => ?_) (fun c13_ => ?_)
    · -- 25 taken
      refine z_aload_n C dX3_restore_34 rfl 0 rfl ?_
      refine z_iload_n C dX3_restore_35 rfl 1 rfl ?_
      refine z_callV (As := [.int (nI k)]) (st := []) (mc := 0) (ms := 0) C hLm h2_ rfl (c_X3_bringBack l hlst G L F1_ m0 c0 c1 c2 c3 c4 c5 c6 n now sl 0 g hmoT k (by omega)) (cwV 1 C.1.2.2.2.2 gX3_restore_X3_bringBack rfl rfl rfl (by decide +kernel) ⟨Nat.le_of_ble_eq_true rfl, Nat.le_of_ble_eq_true rfl⟩) rfl (Nat.le_of_ble_eq_true rfl) ⟨Nat.le_of_ble_eq_true rfl, Nat.le_of_ble_eq_true rfl⟩ dX3_restore_36 (fun rv9 L9 F9 hp9 => ?_)
      obtain ⟨e91, e92, hmo9, k9⟩ := hp9
      rw [e91, e92]
      refine z_stk (st' := []) rfl ?_
      have hFm9 := hmo9.2.1.1
      have hup : upF g k (fBb (g k)) k = fBb (g k) := by unfold upF; rw [if_pos rfl]
      refine z_aload_n C dX3_restore_39 rfl 0 rfl ?_
      refine z_iload_n C dX3_restore_40 rfl 1 rfl ?_
      refine z_callV (As := [.int (nI k)]) (st := []) (mc := 0) (ms := 0) C hLm hFm9 rfl (c_X3_takesOf l hlst G L F9 m0 c0 c1 c2 c3 c4 c5 c6 n now sl 0 ((upF g k (fBb (g k)))) hmo9 k (by omega)) (cwV 1 C.1.2.2.2.2 gX3_restore_X3_takesOf rfl rfl rfl (by decide +kernel) ⟨Nat.le_of_ble_eq_true rfl, Nat.le_of_ble_eq_true rfl⟩) rfl (Nat.le_of_ble_eq_true rfl) ⟨Nat.le_of_ble_eq_true rfl, Nat.le_of_ble_eq_true rfl⟩ dX3_restore_41 (z_p ?_)
      refine z_stk (st' := [.int (nI (fTk ((upF g k (fBb (g k))) k)))]) rfl ?_
      refine z_iret0 C rfl rfl (by decide) (by decide) dX3_restore_44 ?_
      exact ⟨_, rfl, rfl, fun b q0 q1 q2 q3 q4 q5 q6 q7 => (k9 b q4 q6 q7).trans (kc11_ b q0), Or.inl ⟨k, hxk, hk, by omega, (by rw [hup]), hmo9⟩⟩
    · -- 25 not taken
      refine z_aload_n C dX3_restore_28 rfl 0 rfl ?_
      refine z_iconst C (nI 2) dX3_restore_29 (by decide) ?_
      refine z_callV (As := [.int (nI 2)]) (st := []) (mc := 0) (ms := 0) C hLm h2_ rfl (c_X3_fails l hlst G L F1_ m0 c0 c1 c2 c3 c4 c5 c6 n now sl 0 g hmoT 2 (by decide)) (cwV 1 C.1.2.2.2.2 gX3_restore_X3_fails rfl rfl rfl (by decide +kernel) ⟨Nat.le_of_ble_eq_true rfl, Nat.le_of_ble_eq_true rfl⟩) rfl (Nat.le_of_ble_eq_true rfl) ⟨Nat.le_of_ble_eq_true rfl, Nat.le_of_ble_eq_true rfl⟩ dX3_restore_30 (fun rv9 L9 F9 hp9 => ?_)
      obtain ⟨e91, e92, hmo9, k9⟩ := hp9
      rw [e91, e92]
      refine z_stk (st' := [.int (nI 0)]) rfl ?_
      refine z_iret0 C rfl rfl (by decide) (by decide) dX3_restore_33 ?_
      exact ⟨_, rfl, rfl, fun b q0 q1 q2 q3 q4 q5 q6 q7 => (k9 b q0).trans (kc11_ b q0), Or.inr (Or.inr ⟨k, hxk, hk, by omega, hmo9⟩)⟩
  · -- 10 not taken
    refine z_aload_n C dX3_restore_13 rfl 0 rfl ?_
    refine z_iconst C (nI 1) dX3_restore_14 (by decide) ?_
    refine z_callV (As := [.int (nI 1)]) (st := []) (mc := 0) (ms := 0) C hLm h2_ rfl (c_X3_fails l hlst G L F1_ m0 c0 c1 c2 c3 c4 c5 c6 n now sl 0 g hmoT 1 (by decide)) (cwV 1 C.1.2.2.2.2 gX3_restore_X3_fails rfl rfl rfl (by decide +kernel) ⟨Nat.le_of_ble_eq_true rfl, Nat.le_of_ble_eq_true rfl⟩) rfl (Nat.le_of_ble_eq_true rfl) ⟨Nat.le_of_ble_eq_true rfl, Nat.le_of_ble_eq_true rfl⟩ dX3_restore_15 (fun rv9 L9 F9 hp9 => ?_)
    obtain ⟨e91, e92, hmo9, k9⟩ := hp9
    rw [e91, e92]
    refine z_stk (st' := [.int (nI 0)]) rfl ?_
    refine z_iret0 C rfl rfl (by decide) (by decide) dX3_restore_18 ?_
    exact ⟨_, rfl, rfl, fun b q0 q1 q2 q3 q4 q5 q6 q7 => (k9 b q0).trans (kc11_ b q0), Or.inr (Or.inl ⟨(fun h9 => (by obtain ⟨g1, g2⟩ := h9; omega)), hmo9⟩)⟩

set_option maxRecDepth 100000 in
theorem hin_X3_cut_X3 : ∀ w ∈ u_ws RX3 TX3 11, w ∈ wsX3_cut := by decide +kernel
set_option maxHeartbeats 4000000 in
set_option maxRecDepth 100000 in
theorem c_X3_cut (l : Launch) (hlst : l.stackTraces = false) (G : zGt) (L : List Nat) (F : Nat → va_E) (m0 c0 c1 c2 c3 c4 c5 c6 : Nat) (n now sl thr : Nat) (g : Nat → FdT) (hmo : zMo G L F m0 c0 c1 c2 c3 c4 c5 c6 n now sl thr g) (x : Int32) : zM l yX3_cut wsX3_cut 4 89 0 0 G L F [.ref m0, .int x] (fun rv L1 F1 => ∃ r : Int32, rv = some (.int r) ∧ L1 = L ∧ (∀ b, b ≠ m0 → b ≠ c0 → b ≠ c1 → b ≠ c2 → b ≠ c3 → b ≠ c4 → b ≠ c5 → b ≠ c6 → F1 b = F b) ∧ ((∃ k : Nat, x = nI k ∧ k < n ∧ fOf (g k) = 0 ∧ r = nI (fTk (g k)) ∧ zMo G L F1 m0 c0 c1 c2 c3 c4 c5 c6 n now sl 0 ((upF g k (fOff (g k))))) ∨ (¬ zIx n x ∧ zMo G L F1 m0 c0 c1 c2 c3 c4 c5 c6 n now sl 1 g) ∨ (∃ k : Nat, x = nI k ∧ k < n ∧ fOf (g k) = 1 ∧ zMo G L F1 m0 c0 c1 c2 c3 c4 c5 c6 n now sl 2 g))) := by
  obtain ⟨⟨hLm, hLc0, hLc1, hLc2, hLc3, hLc4, hLc5, hLc6⟩, ⟨hFm, hFc0, hFc1, hFc2, hFc3, hFc4, hFc5, hFc6⟩, hNc, hGg, ⟨hn, hnow, hsl, hthr⟩⟩ := id hmo
  refine z_of (cc := cX3_cut) (nL := 2) (ret := (some .int)) (own := RX3) hlst (by decide +kernel) rfl rfl (Nat.le_of_ble_eq_true rfl) ?_
  intro p e s m below meth c A hnm C
  refine z_lvs (lv' := [(0, .ref m0), (1, .int x)]) rfl ?_
  refine z_aload_n C dX3_cut_0 rfl 0 rfl ?_
  refine z_iconst C (nI 0) dX3_cut_1 (by decide) ?_
  refine z_put (ref := "ShedwheelModel") (v := .int (nI 0)) (fs' := [.ref c0, .ref c1, .ref c2, .ref c3, .ref c4, .ref c5, .ref c6, .int (nI n), .int (nI sl), .int (nI now), .int (nI 0)]) C hin_X3_cut_X3 tyX3 tyX3_ok nmX3 hLm hFm rfl 10 (by decide) (by decide +kernel) (fun _ h9 => h9) rfl rfl rfl (Nat.le_of_ble_eq_true rfl) rfl dX3_cut_2 (fun F1_ h2_ k3_ => ?_)
  have h4_ : F1_ c0 = .inl (G.2.1, 12, .inl (fun i9 => nI (fMw (g i9)))) := (k3_ c0 (zne hFc0 hFm rfl)).trans hFc0
  have h5_ : F1_ c1 = .inl (G.2.1, 12, .inl (fun i9 => nI (fCr (g i9)))) := (k3_ c1 (zne hFc1 hFm rfl)).trans hFc1
  have h6_ : F1_ c2 = .inl (G.2.1, 12, .inl (fun i9 => nI (fSg (g i9)))) := (k3_ c2 (zne hFc2 hFm rfl)).trans hFc2
  have h7_ : F1_ c3 = .inl (G.2.1, 12, .inl (fun i9 => nI (fOf (g i9)))) := (k3_ c3 (zne hFc3 hFm rfl)).trans hFc3
  have h8_ : F1_ c4 = .inl (G.2.1, 12, .inl (fun i9 => nI (fHo (g i9)))) := (k3_ c4 (zne hFc4 hFm rfl)).trans hFc4
  have h9_ : F1_ c5 = .inl (G.2.1, 12, .inl (fun i9 => nI (fTh (g i9)))) := (k3_ c5 (zne hFc5 hFm rfl)).trans hFc5
  have h10_ : F1_ c6 = .inl (G.2.1, 12, .inl (fun i9 => nI (fCo (g i9)))) := (k3_ c6 (zne hFc6 hFm rfl)).trans hFc6
  have kc11_ : ∀ b, b ≠ m0 → F1_ b = F b := fun b q0 => k3_ b q0
  have hmoT : zMo G L F1_ m0 c0 c1 c2 c3 c4 c5 c6 n now sl 0 g := ⟨⟨hLm, hLc0, hLc1, hLc2, hLc3, hLc4, hLc5, hLc6⟩, ⟨h2_, h4_, h5_, h6_, h7_, h8_, h9_, h10_⟩, hNc, hGg, ⟨hn, hnow, hsl, by omega⟩⟩
  refine z_aload_n C dX3_cut_5 rfl 0 rfl ?_
  refine z_iload_n C dX3_cut_6 rfl 1 rfl ?_
  refine z_callV (As := [.int x]) (st := []) (mc := 0) (ms := 0) C hLm h2_ rfl (c_X3_isThere l hlst G L F1_ m0 c0 c1 c2 c3 c4 c5 c6 n now sl 0 g hmoT x) (cwV 1 C.1.2.2.2.2 gX3_cut_X3_isThere rfl rfl rfl (by decide +kernel) ⟨Nat.le_of_ble_eq_true rfl, Nat.le_of_ble_eq_true rfl⟩) rfl (Nat.le_of_ble_eq_true rfl) ⟨Nat.le_of_ble_eq_true rfl, Nat.le_of_ble_eq_true rfl⟩ dX3_cut_7 (z_p ?_)
  refine z_stk (st' := [.int (nI (if 0 ≤ (x).toInt ∧ (x).toInt ≤ ((n : Nat) : Int) - 1 then 1 else 0))]) rfl ?_
  refine z_if_ne C 19 (¬ (0 ≤ (x).toInt ∧ (x).toInt ≤ ((n : Nat) : Int) - 1)) (zif_iff) dX3_cut_10 (by decide) (fun c12_ => ?_) (fun c12_ => ?_)
  · -- 10 taken
    obtain ⟨k, hxk, hk⟩ := zIx_of (n := n) (v := x) ⟨by omega, by omega⟩
    refine z_lvs (lv' := [(0, .ref m0), (1, .int (nI k))]) (by rw [hxk]) ?_
    have hOk := hGg.1 k hk
    obtain ⟨u1, u2, u3, u4, u5, u6, u7, u8⟩ := id hOk
    refine z_aload_n C dX3_cut_19 rfl 0 rfl ?_
    refine z_get (ref := "ShedwheelModel") (v := .ref c3) C hin_X3_cut_X3 hLm h2_ rfl 3 (by decide) (by decide +kernel) (fun _ h9 => h9) rfl dX3_cut_20 ?_
    refine z_iload_n C dX3_cut_23 rfl 1 rfl ?_
    refine z_iald C hLc3 h7_ (by omega) (by omega) dX3_cut_24 (nI (fOf (g k))) (rfl) ?_
    refine z_iconst C (nI 1) dX3_cut_25 (by decide) ?_
    refine z_icmp_ne C 37 (((fOf (g k) : Nat) : Int) = ((1 : Nat) : Int)) (zi_eq (zi_N (n := fOf (g k)) (by omega)) (zi_N (n := 1) (by omega))) dX3_cut_26 (by decide) (fun c13_ => ?_) (fun c13_ => ?_)
    · -- 26 taken
      refine z_aload_n C dX3_cut_37 rfl 0 rfl ?_
      refine z_iload_n C dX3_cut_38 rfl 1 rfl ?_
      refine z_callV (As := [.int (nI k)]) (st := []) (mc := 0) (ms := 0) C hLm h2_ rfl (c_X3_cutOff l hlst G L F1_ m0 c0 c1 c2 c3 c4 c5 c6 n now sl 0 g hmoT k (by omega)) (cwV 1 C.1.2.2.2.2 gX3_cut_X3_cutOff rfl rfl rfl (by decide +kernel) ⟨Nat.le_of_ble_eq_true rfl, Nat.le_of_ble_eq_true rfl⟩) rfl (Nat.le_of_ble_eq_true rfl) ⟨Nat.le_of_ble_eq_true rfl, Nat.le_of_ble_eq_true rfl⟩ dX3_cut_39 (fun rv9 L9 F9 hp9 => ?_)
      obtain ⟨e91, e92, hmo9, k9⟩ := hp9
      rw [e91, e92]
      refine z_stk (st' := [.int (nI (fTk (g k)))]) rfl ?_
      refine z_iret0 C rfl rfl (by decide) (by decide) dX3_cut_42 ?_
      exact ⟨_, rfl, rfl, fun b q0 q1 q2 q3 q4 q5 q6 q7 => (k9 b q4 q6 q7).trans (kc11_ b q0), Or.inl ⟨k, hxk, hk, by omega, rfl, hmo9⟩⟩
    · -- 26 not taken
      refine z_aload_n C dX3_cut_29 rfl 0 rfl ?_
      refine z_iconst C (nI 2) dX3_cut_30 (by decide) ?_
      refine z_callV (As := [.int (nI 2)]) (st := []) (mc := 0) (ms := 0) C hLm h2_ rfl (c_X3_fails l hlst G L F1_ m0 c0 c1 c2 c3 c4 c5 c6 n now sl 0 g hmoT 2 (by decide)) (cwV 1 C.1.2.2.2.2 gX3_cut_X3_fails rfl rfl rfl (by decide +kernel) ⟨Nat.le_of_ble_eq_true rfl, Nat.le_of_ble_eq_true rfl⟩) rfl (Nat.le_of_ble_eq_true rfl) ⟨Nat.le_of_ble_eq_true rfl, Nat.le_of_ble_eq_true rfl⟩ dX3_cut_31 (fun rv9 L9 F9 hp9 => ?_)
      obtain ⟨e91, e92, hmo9, k9⟩ := hp9
      rw [e91, e92]
      refine z_stk (st' := [.int (nI 0)]) rfl ?_
      refine z_goto C 42 dX3_cut_34 (by decide) ?_
      refine z_iret0 C rfl rfl (by decide) (by decide) dX3_cut_42 ?_
      exact ⟨_, rfl, rfl, fun b q0 q1 q2 q3 q4 q5 q6 q7 => (k9 b q0).trans (kc11_ b q0), Or.inr (Or.inr ⟨k, hxk, hk, by omega, hmo9⟩)⟩
  · -- 10 not taken
    refine z_aload_n C dX3_cut_13 rfl 0 rfl ?_
    refine z_iconst C (nI 1) dX3_cut_14 (by decide) ?_
    refine z_callV (As := [.int (nI 1)]) (st := []) (mc := 0) (ms := 0) C hLm h2_ rfl (c_X3_fails l hlst G L F1_ m0 c0 c1 c2 c3 c4 c5 c6 n now sl 0 g hmoT 1 (by decide)) (cwV 1 C.1.2.2.2.2 gX3_cut_X3_fails rfl rfl rfl (by decide +kernel) ⟨Nat.le_of_ble_eq_true rfl, Nat.le_of_ble_eq_true rfl⟩) rfl (Nat.le_of_ble_eq_true rfl) ⟨Nat.le_of_ble_eq_true rfl, Nat.le_of_ble_eq_true rfl⟩ dX3_cut_15 (fun rv9 L9 F9 hp9 => ?_)
    obtain ⟨e91, e92, hmo9, k9⟩ := hp9
    rw [e91, e92]
    refine z_stk (st' := [.int (nI 0)]) rfl ?_
    refine z_iret0 C rfl rfl (by decide) (by decide) dX3_cut_18 ?_
    exact ⟨_, rfl, rfl, fun b q0 q1 q2 q3 q4 q5 q6 q7 => (k9 b q0).trans (kc11_ b q0), Or.inr (Or.inl ⟨(fun h9 => (by obtain ⟨g1, g2⟩ := h9; omega)), hmo9⟩)⟩

def spI (t : Nat × Nat × Nat) (x : Nat) : Int32 := if t.1 = 0 then -1 else nI x
def spJ (t : Nat × Nat × Nat) (x : Nat) : Int := if t.1 = 0 then -1 else (x : Int)
theorem spI_int {t : Nat × Nat × Nat} {x : Nat} (h : x < 2147483648) : (spI t x).toInt = spJ t x := by
  unfold spI spJ; split
  · decide
  · exact nI_toInt (by omega)
theorem spJ_0 {t : Nat × Nat × Nat} {x : Nat} (h : t.1 = 0) : spJ t x = -1 := by unfold spJ; rw [if_pos h]
theorem spJ_1 {t : Nat × Nat × Nat} {x : Nat} (h : ¬ t.1 = 0) : spJ t x = (x : Int) := by unfold spJ; rw [if_neg h]
theorem spI_sub {t : Nat × Nat × Nat} {a b : Nat} (h0 : t.1 = 0 → a = 0 ∧ b = 0) (h : b ≤ a) : spI t a - spI t b = nI (a - b) := by
  unfold spI; split
  · rename_i c; obtain ⟨rfl, rfl⟩ := h0 c; decide
  · exact pk_sub h
theorem spT_z {fd : Nat → FdT} : ∀ {k : Nat}, (spT fd k).1 = 0 → (spT fd k).2.2 = 0 ∧ (spT fd k).2.1 = 0
  | 0, _ => ⟨rfl, rfl⟩
  | k + 1, h => by
    rw [spT] at h ⊢
    split
    · rw [if_pos (by assumption)] at h; exact absurd (show (1 : Nat) = 0 from h) (by decide)
    · rw [if_neg (by assumption)] at h; exact spT_z h

set_option maxRecDepth 100000 in
theorem hin_X3_spread_X3 : ∀ w ∈ u_ws RX3 TX3 11, w ∈ wsX3_spread := by decide +kernel
set_option maxHeartbeats 4000000 in
set_option maxRecDepth 100000 in
theorem c_X3_spread (l : Launch) (hlst : l.stackTraces = false) (G : zGt) (L : List Nat) (F : Nat → va_E) (m0 c0 c1 c2 c3 c4 c5 c6 : Nat) (n now sl thr : Nat) (g : Nat → FdT) (hmo : zMo G L F m0 c0 c1 c2 c3 c4 c5 c6 n now sl thr g)  : zM l yX3_spread wsX3_spread 1 24 0 0 G L F [.ref m0] (fun rv L1 F1 => rv = some (.int (nI ((spT g n).2.2 - (spT g n).2.1))) ∧ L1 = L ∧ zMo G L F1 m0 c0 c1 c2 c3 c4 c5 c6 n now sl 0 g ∧ (∀ b, b ≠ m0 → b ≠ c0 → b ≠ c1 → b ≠ c2 → b ≠ c3 → b ≠ c4 → b ≠ c5 → b ≠ c6 → F1 b = F b)) := by
  obtain ⟨⟨hLm, hLc0, hLc1, hLc2, hLc3, hLc4, hLc5, hLc6⟩, ⟨hFm, hFc0, hFc1, hFc2, hFc3, hFc4, hFc5, hFc6⟩, hNc, hGg, ⟨hn, hnow, hsl, hthr⟩⟩ := id hmo
  refine z_of (cc := cX3_spread) (nL := 4) (ret := (some .int)) (own := RX3) hlst (by decide +kernel) rfl rfl (Nat.le_of_ble_eq_true rfl) ?_
  intro p e s m below meth c A hnm C
  refine z_lvs (lv' := [(0, .ref m0)]) rfl ?_
  refine z_aload_n C dX3_spread_0 rfl 0 rfl ?_
  refine z_iconst C (nI 0) dX3_spread_1 (by decide) ?_
  refine z_put (ref := "ShedwheelModel") (v := .int (nI 0)) (fs' := [.ref c0, .ref c1, .ref c2, .ref c3, .ref c4, .ref c5, .ref c6, .int (nI n), .int (nI sl), .int (nI now), .int (nI 0)]) C hin_X3_spread_X3 tyX3 tyX3_ok nmX3 hLm hFm rfl 10 (by decide) (by decide +kernel) (fun _ h9 => h9) rfl rfl rfl (Nat.le_of_ble_eq_true rfl) rfl dX3_spread_2 (fun F1_ h2_ k3_ => ?_)
  have h4_ : F1_ c0 = .inl (G.2.1, 12, .inl (fun i9 => nI (fMw (g i9)))) := (k3_ c0 (zne hFc0 hFm rfl)).trans hFc0
  have h5_ : F1_ c1 = .inl (G.2.1, 12, .inl (fun i9 => nI (fCr (g i9)))) := (k3_ c1 (zne hFc1 hFm rfl)).trans hFc1
  have h6_ : F1_ c2 = .inl (G.2.1, 12, .inl (fun i9 => nI (fSg (g i9)))) := (k3_ c2 (zne hFc2 hFm rfl)).trans hFc2
  have h7_ : F1_ c3 = .inl (G.2.1, 12, .inl (fun i9 => nI (fOf (g i9)))) := (k3_ c3 (zne hFc3 hFm rfl)).trans hFc3
  have h8_ : F1_ c4 = .inl (G.2.1, 12, .inl (fun i9 => nI (fHo (g i9)))) := (k3_ c4 (zne hFc4 hFm rfl)).trans hFc4
  have h9_ : F1_ c5 = .inl (G.2.1, 12, .inl (fun i9 => nI (fTh (g i9)))) := (k3_ c5 (zne hFc5 hFm rfl)).trans hFc5
  have h10_ : F1_ c6 = .inl (G.2.1, 12, .inl (fun i9 => nI (fCo (g i9)))) := (k3_ c6 (zne hFc6 hFm rfl)).trans hFc6
  have kc11_ : ∀ b, b ≠ m0 → F1_ b = F b := fun b q0 => k3_ b q0
  have hmoT : zMo G L F1_ m0 c0 c1 c2 c3 c4 c5 c6 n now sl 0 g := ⟨⟨hLm, hLc0, hLc1, hLc2, hLc3, hLc4, hLc5, hLc6⟩, ⟨h2_, h4_, h5_, h6_, h7_, h8_, h9_, h10_⟩, hNc, hGg, ⟨hn, hnow, hsl, by omega⟩⟩
  refine z_iconst C (-1) dX3_spread_5 (by decide) ?_
  refine z_istore_n (lv' := [(1, .int (-1)), (0, .ref m0)]) C dX3_spread_6 rfl (by decide) rfl ?_
  refine z_iconst C (-1) dX3_spread_7 (by decide) ?_
  refine z_istore_n (lv' := [(2, .int (-1)), (1, .int (-1)), (0, .ref m0)]) C dX3_spread_8 rfl (by decide) rfl ?_
  refine z_iconst C (nI 0) dX3_spread_9 (by decide) ?_
  refine z_istore_n (lv' := [(3, .int (nI 0)), (2, .int (-1)), (1, .int (-1)), (0, .ref m0)]) C dX3_spread_10 rfl (by decide) rfl ?_
  refine z_lvs (lv' := [(3, .int (nI 0)), (2, .int ((spI (spT g 0) (spT g 0).2.2))), (1, .int ((spI (spT g 0) (spT g 0).2.1))), (0, .ref m0)]) rfl ?_
  refine z_sub (lv' := [(0, .ref m0), (1, .int ((spI (spT g 0) (spT g 0).2.1))), (2, .int ((spI (spT g 0) (spT g 0).2.2))), (3, .int (nI 0))]) [3, 2, 1, 0] rfl ?_
  have lp11 : ∀ (N9 : Nat) (k : Nat) (hk : k ≤ n) (h9 : n - k < N9), zW p l e { frames := 1, cells := 0, slots := 0, locals := 24 } s m [.ref m0].toArray below meth c 4 G A (MQ below (zQ G (fun rv L1 F1 => rv = some (.int (nI ((spT g n).2.2 - (spT g n).2.1))) ∧ L1 = L ∧ zMo G L F1 m0 c0 c1 c2 c3 c4 c5 c6 n now sl 0 g ∧ (∀ b, b ≠ m0 → b ≠ c0 → b ≠ c1 → b ≠ c2 → b ≠ c3 → b ≠ c4 → b ≠ c5 → b ≠ c6 → F1 b = F b)) A) [.ref m0].toArray s 0 0 A) 0 0 L F1_ 11 [(0, .ref m0), (1, .int ((spI (spT g k) (spT g k).2.1))), (2, .int ((spI (spT g k) (spT g k).2.2))), (3, .int (nI k))] [] := by
    intro N9
    induction N9 with
    | zero => intro k hk h9; exact absurd h9 (Nat.not_lt_zero _)
    | succ N9 ih11 =>
      intro k hk hN11
      refine z_iload_n C dX3_spread_11 rfl 3 rfl ?_
      obtain ⟨s1, s2, s3⟩ := spT_ok (fd := g) (B := now) (k := k) (fun j hj => (hGg.1 j (by omega)).2.2.2.2.2.1)
      have s4 : (spT g k).1 = 0 → (spT g k).2.2 = 0 ∧ (spT g k).2.1 = 0 := spT_z
      refine z_aload_n C dX3_spread_12 rfl 0 rfl ?_
      refine z_get (ref := "ShedwheelModel") (v := .int (nI n)) C hin_X3_spread_X3 hLm h2_ rfl 7 (by decide) (by decide +kernel) (fun _ h9 => h9) rfl dX3_spread_13 ?_
      refine z_icmp_ge C 80 (((n : Nat) : Int) ≤ ((k : Nat) : Int)) (zi_le (zi_N (n := n) (by omega)) (zi_N (n := k) (by omega))) dX3_spread_16 (by decide) (fun c12_ => ?_) (fun c12_ => ?_)
      · -- 16 taken
        refine z_iload_n C dX3_spread_80 rfl 2 rfl ?_
        refine z_iload_n C dX3_spread_81 rfl 1 rfl ?_
        refine z_isub C (nI ((spT g k).2.2 - (spT g k).2.1)) dX3_spread_82 (spI_sub (fun h9 => s4 h9) s2) ?_
        refine z_iret0 C rfl rfl (by decide) (by decide) dX3_spread_83 ?_
        obtain rfl : n = k := by omega
        exact ⟨rfl, rfl, hmoT, fun b q0 q1 q2 q3 q4 q5 q6 q7 => kc11_ b q0⟩
      · -- 16 not taken
        have hOk := hGg.1 k (by omega)
        obtain ⟨u1, u2, u3, u4, u5, u6, u7, u8⟩ := id hOk
        have s5 : ((spT g k).1 = 0 ∧ spJ (spT g k) (spT g k).2.1 = -1 ∧ spJ (spT g k) (spT g k).2.2 = -1) ∨ (¬ (spT g k).1 = 0 ∧ spJ (spT g k) (spT g k).2.1 = ((spT g k).2.1 : Int) ∧ spJ (spT g k) (spT g k).2.2 = ((spT g k).2.2 : Int)) := by
          by_cases c : (spT g k).1 = 0
          · exact Or.inl ⟨c, spJ_0 c, spJ_0 c⟩
          · exact Or.inr ⟨c, spJ_1 c, spJ_1 c⟩
        refine z_aload_n C dX3_spread_19 rfl 0 rfl ?_
        refine z_get (ref := "ShedwheelModel") (v := .ref c1) C hin_X3_spread_X3 hLm h2_ rfl 1 (by decide) (by decide +kernel) (fun _ h9 => h9) rfl dX3_spread_20 ?_
        refine z_iload_n C dX3_spread_23 rfl 3 rfl ?_
        refine z_iald C hLc1 h5_ (by omega) (by omega) dX3_spread_24 (nI (fCr (g k))) (rfl) ?_
        refine z_if_ne C 74 (((fCr (g k) : Nat) : Int) = (0 : Int)) (zi_eq (zi_N (n := fCr (g k)) (by omega)) zi_0) dX3_spread_25 (by decide) (fun c13_ => ?_) (fun c13_ => ?_)
        · -- 25 taken
          refine z_iinc (v := nI (k + 1)) (lv' := [(3, .int (nI (k + 1))), (0, .ref m0), (1, .int ((spI (spT g k) (spT g k).2.1))), (2, .int ((spI (spT g k) (spT g k).2.2)))]) C dX3_spread_74 3 rfl (nI_add k 1) (by decide) rfl ?_
          refine z_goto C 11 dX3_spread_77 (by decide) ?_
          have e9 : spT g (k + 1) = spT g k := by rw [spT, if_neg (by omega)]
          refine z_lvs (lv' := [(3, .int (nI (k + 1))), (0, .ref m0), (1, .int ((spI (spT g (k + 1)) (spT g (k + 1)).2.1))), (2, .int ((spI (spT g (k + 1)) (spT g (k + 1)).2.2)))]) (by rw [e9]) ?_
          refine z_sub (lv' := [(0, .ref m0), (1, .int ((spI (spT g (k + 1)) (spT g (k + 1)).2.1))), (2, .int ((spI (spT g (k + 1)) (spT g (k + 1)).2.2))), (3, .int (nI (k + 1)))]) [1, 2, 3, 0] rfl ?_
          exact ih11 (k + 1) (by omega) (by omega)
        · -- 25 not taken
          refine z_iload_n C dX3_spread_28 rfl 1 rfl ?_
          refine z_if_lt C 42 ((spJ (spT g k) (spT g k).2.1) < (0 : Int)) (zi_lt (spI_int (by omega)) zi_0) dX3_spread_29 (by decide) (fun c14_ => ?_) (fun c14_ => ?_)
          · -- 29 taken
            refine z_aload_n C dX3_spread_42 rfl 0 rfl ?_
            refine z_get (ref := "ShedwheelModel") (v := .ref c4) C hin_X3_spread_X3 hLm h2_ rfl 4 (by decide) (by decide +kernel) (fun _ h9 => h9) rfl dX3_spread_43 ?_
            refine z_iload_n C dX3_spread_46 rfl 3 rfl ?_
            refine z_iald C hLc4 h8_ (by omega) (by omega) dX3_spread_47 (nI (fHo (g k))) (rfl) ?_
            refine z_goto C 52 dX3_spread_48 (by decide) ?_
            refine z_istore_n (lv' := [(1, .int (nI (fHo (g k)))), (0, .ref m0), (2, .int ((spI (spT g k) (spT g k).2.2))), (3, .int (nI k))]) C dX3_spread_52 rfl (by decide) rfl ?_
            refine z_aload_n C dX3_spread_53 rfl 1 rfl ?_
            refine z_get (ref := "ShedwheelModel") (v := .ref c4) C hin_X3_spread_X3 hLm h2_ rfl 4 (by decide) (by decide +kernel) (fun _ h9 => h9) rfl dX3_spread_54 ?_
            refine z_iload_n C dX3_spread_57 rfl 3 rfl ?_
            refine z_iald C hLc4 h8_ (by omega) (by omega) dX3_spread_58 (nI (fHo (g k))) (rfl) ?_
            refine z_iload_n C dX3_spread_59 rfl 2 rfl ?_
            refine z_icmp_le C 72 (((fHo (g k) : Nat) : Int) ≤ (spJ (spT g k) (spT g k).2.2)) (zi_le (zi_N (n := fHo (g k)) (by omega)) (spI_int (by omega))) dX3_spread_60 (by decide) (fun c15_ => absurd c15_ (by omega)) (fun c15_ => ?_)
            refine z_aload_n C dX3_spread_63 rfl 1 rfl ?_
            refine z_get (ref := "ShedwheelModel") (v := .ref c4) C hin_X3_spread_X3 hLm h2_ rfl 4 (by decide) (by decide +kernel) (fun _ h9 => h9) rfl dX3_spread_64 ?_
            refine z_iload_n C dX3_spread_67 rfl 3 rfl ?_
            refine z_iald C hLc4 h8_ (by omega) (by omega) dX3_spread_68 (nI (fHo (g k))) (rfl) ?_
            refine z_goto C 73 dX3_spread_69 (by decide) ?_
            refine z_istore_n (lv' := [(2, .int (nI (fHo (g k)))), (1, .int (nI (fHo (g k)))), (0, .ref m0), (3, .int (nI k))]) C dX3_spread_73 rfl (by decide) rfl ?_
            refine z_iinc (v := nI (k + 1)) (lv' := [(3, .int (nI (k + 1))), (2, .int (nI (fHo (g k)))), (1, .int (nI (fHo (g k)))), (0, .ref m0)]) C dX3_spread_74 3 rfl (nI_add k 1) (by decide) rfl ?_
            refine z_goto C 11 dX3_spread_77 (by decide) ?_
            have e9 : spT g (k + 1) = (1, fHo (g k), fHo (g k)) := by rw [spT, if_pos (show fCr (g k) = 0 by omega)]; simp only [if_pos (show (spT g k).1 = 0 by omega)]
            have f1 : nI (fHo (g k)) = spI (spT g (k + 1)) (spT g (k + 1)).2.1 := by rw [e9]; rfl
            have f2 : nI (fHo (g k)) = spI (spT g (k + 1)) (spT g (k + 1)).2.2 := by rw [e9]; rfl
            refine z_lvs (lv' := [(3, .int (nI (k + 1))), (2, .int ((spI (spT g (k + 1)) (spT g (k + 1)).2.2))), (1, .int ((spI (spT g (k + 1)) (spT g (k + 1)).2.1))), (0, .ref m0)]) (by rw [← f1, ← f2]) ?_
            refine z_sub (lv' := [(0, .ref m0), (1, .int ((spI (spT g (k + 1)) (spT g (k + 1)).2.1))), (2, .int ((spI (spT g (k + 1)) (spT g (k + 1)).2.2))), (3, .int (nI (k + 1)))]) [3, 2, 1, 0] rfl ?_
            exact ih11 (k + 1) (by omega) (by omega)
          · -- 29 not taken
            refine z_aload_n C dX3_spread_32 rfl 0 rfl ?_
            refine z_get (ref := "ShedwheelModel") (v := .ref c4) C hin_X3_spread_X3 hLm h2_ rfl 4 (by decide) (by decide +kernel) (fun _ h9 => h9) rfl dX3_spread_33 ?_
            refine z_iload_n C dX3_spread_36 rfl 3 rfl ?_
            refine z_iald C hLc4 h8_ (by omega) (by omega) dX3_spread_37 (nI (fHo (g k))) (rfl) ?_
            refine z_iload_n C dX3_spread_38 rfl 1 rfl ?_
            refine z_icmp_ge C 51 ((spJ (spT g k) (spT g k).2.1) ≤ ((fHo (g k) : Nat) : Int)) (zi_le (spI_int (by omega)) (zi_N (n := fHo (g k)) (by omega))) dX3_spread_39 (by decide) (fun c16_ => ?_) (fun c16_ => ?_)
            · -- 39 taken
              refine z_iload_n C dX3_spread_51 rfl 1 rfl ?_
              refine z_istore_n (lv' := [(1, .int ((spI (spT g k) (spT g k).2.1))), (0, .ref m0), (2, .int ((spI (spT g k) (spT g k).2.2))), (3, .int (nI k))]) C dX3_spread_52 rfl (by decide) rfl ?_
              refine z_aload_n C dX3_spread_53 rfl 1 rfl ?_
              refine z_get (ref := "ShedwheelModel") (v := .ref c4) C hin_X3_spread_X3 hLm h2_ rfl 4 (by decide) (by decide +kernel) (fun _ h9 => h9) rfl dX3_spread_54 ?_
              refine z_iload_n C dX3_spread_57 rfl 3 rfl ?_
              refine z_iald C hLc4 h8_ (by omega) (by omega) dX3_spread_58 (nI (fHo (g k))) (rfl) ?_
              refine z_iload_n C dX3_spread_59 rfl 2 rfl ?_
              refine z_icmp_le C 72 (((fHo (g k) : Nat) : Int) ≤ (spJ (spT g k) (spT g k).2.2)) (zi_le (zi_N (n := fHo (g k)) (by omega)) (spI_int (by omega))) dX3_spread_60 (by decide) (fun c17_ => ?_) (fun c17_ => ?_)
              · -- 60 taken
                refine z_iload_n C dX3_spread_72 rfl 2 rfl ?_
                refine z_istore_n (lv' := [(2, .int ((spI (spT g k) (spT g k).2.2))), (1, .int ((spI (spT g k) (spT g k).2.1))), (0, .ref m0), (3, .int (nI k))]) C dX3_spread_73 rfl (by decide) rfl ?_
                refine z_iinc (v := nI (k + 1)) (lv' := [(3, .int (nI (k + 1))), (2, .int ((spI (spT g k) (spT g k).2.2))), (1, .int ((spI (spT g k) (spT g k).2.1))), (0, .ref m0)]) C dX3_spread_74 3 rfl (nI_add k 1) (by decide) rfl ?_
                refine z_goto C 11 dX3_spread_77 (by decide) ?_
                have e9 : spT g (k + 1) = (1, (spT g k).2.1, (spT g k).2.2) := by rw [spT, if_pos (show fCr (g k) = 0 by omega)]; simp only [if_neg (show ¬ (spT g k).1 = 0 by omega)]; rw [if_neg (show ¬ fHo (g k) < (spT g k).2.1 by omega), if_neg (show ¬ (spT g k).2.2 < fHo (g k) by omega)]
                have f1 : spI (spT g k) (spT g k).2.1 = spI (spT g (k + 1)) (spT g (k + 1)).2.1 := by rw [e9]; unfold spI; rw [if_neg (show ¬ (spT g k).1 = 0 by omega)]; rfl
                have f2 : spI (spT g k) (spT g k).2.2 = spI (spT g (k + 1)) (spT g (k + 1)).2.2 := by rw [e9]; unfold spI; rw [if_neg (show ¬ (spT g k).1 = 0 by omega)]; rfl
                refine z_lvs (lv' := [(3, .int (nI (k + 1))), (2, .int ((spI (spT g (k + 1)) (spT g (k + 1)).2.2))), (1, .int ((spI (spT g (k + 1)) (spT g (k + 1)).2.1))), (0, .ref m0)]) (by rw [← f1, ← f2]) ?_
                refine z_sub (lv' := [(0, .ref m0), (1, .int ((spI (spT g (k + 1)) (spT g (k + 1)).2.1))), (2, .int ((spI (spT g (k + 1)) (spT g (k + 1)).2.2))), (3, .int (nI (k + 1)))]) [3, 2, 1, 0] rfl ?_
                exact ih11 (k + 1) (by omega) (by omega)
              · -- 60 not taken
                refine z_aload_n C dX3_spread_63 rfl 1 rfl ?_
                refine z_get (ref := "ShedwheelModel") (v := .ref c4) C hin_X3_spread_X3 hLm h2_ rfl 4 (by decide) (by decide +kernel) (fun _ h9 => h9) rfl dX3_spread_64 ?_
                refine z_iload_n C dX3_spread_67 rfl 3 rfl ?_
                refine z_iald C hLc4 h8_ (by omega) (by omega) dX3_spread_68 (nI (fHo (g k))) (rfl) ?_
                refine z_goto C 73 dX3_spread_69 (by decide) ?_
                refine z_istore_n (lv' := [(2, .int (nI (fHo (g k)))), (1, .int ((spI (spT g k) (spT g k).2.1))), (0, .ref m0), (3, .int (nI k))]) C dX3_spread_73 rfl (by decide) rfl ?_
                refine z_iinc (v := nI (k + 1)) (lv' := [(3, .int (nI (k + 1))), (2, .int (nI (fHo (g k)))), (1, .int ((spI (spT g k) (spT g k).2.1))), (0, .ref m0)]) C dX3_spread_74 3 rfl (nI_add k 1) (by decide) rfl ?_
                refine z_goto C 11 dX3_spread_77 (by decide) ?_
                have e9 : spT g (k + 1) = (1, (spT g k).2.1, fHo (g k)) := by rw [spT, if_pos (show fCr (g k) = 0 by omega)]; simp only [if_neg (show ¬ (spT g k).1 = 0 by omega)]; rw [if_neg (show ¬ fHo (g k) < (spT g k).2.1 by omega), if_pos (show (spT g k).2.2 < fHo (g k) by omega)]
                have f1 : spI (spT g k) (spT g k).2.1 = spI (spT g (k + 1)) (spT g (k + 1)).2.1 := by rw [e9]; unfold spI; rw [if_neg (show ¬ (spT g k).1 = 0 by omega)]; rfl
                have f2 : nI (fHo (g k)) = spI (spT g (k + 1)) (spT g (k + 1)).2.2 := by rw [e9]; rfl
                refine z_lvs (lv' := [(3, .int (nI (k + 1))), (2, .int ((spI (spT g (k + 1)) (spT g (k + 1)).2.2))), (1, .int ((spI (spT g (k + 1)) (spT g (k + 1)).2.1))), (0, .ref m0)]) (by first | (rw [f1, f2]) | (rw [f1, ← f2]; rfl)) ?_
                refine z_sub (lv' := [(0, .ref m0), (1, .int ((spI (spT g (k + 1)) (spT g (k + 1)).2.1))), (2, .int ((spI (spT g (k + 1)) (spT g (k + 1)).2.2))), (3, .int (nI (k + 1)))]) [3, 2, 1, 0] rfl ?_
                exact ih11 (k + 1) (by omega) (by omega)
            · -- 39 not taken
              refine z_aload_n C dX3_spread_42 rfl 0 rfl ?_
              refine z_get (ref := "ShedwheelModel") (v := .ref c4) C hin_X3_spread_X3 hLm h2_ rfl 4 (by decide) (by decide +kernel) (fun _ h9 => h9) rfl dX3_spread_43 ?_
              refine z_iload_n C dX3_spread_46 rfl 3 rfl ?_
              refine z_iald C hLc4 h8_ (by omega) (by omega) dX3_spread_47 (nI (fHo (g k))) (rfl) ?_
              refine z_goto C 52 dX3_spread_48 (by decide) ?_
              refine z_istore_n (lv' := [(1, .int (nI (fHo (g k)))), (0, .ref m0), (2, .int ((spI (spT g k) (spT g k).2.2))), (3, .int (nI k))]) C dX3_spread_52 rfl (by decide) rfl ?_
              refine z_aload_n C dX3_spread_53 rfl 1 rfl ?_
              refine z_get (ref := "ShedwheelModel") (v := .ref c4) C hin_X3_spread_X3 hLm h2_ rfl 4 (by decide) (by decide +kernel) (fun _ h9 => h9) rfl dX3_spread_54 ?_
              refine z_iload_n C dX3_spread_57 rfl 3 rfl ?_
              refine z_iald C hLc4 h8_ (by omega) (by omega) dX3_spread_58 (nI (fHo (g k))) (rfl) ?_
              refine z_iload_n C dX3_spread_59 rfl 2 rfl ?_
              refine z_icmp_le C 72 (((fHo (g k) : Nat) : Int) ≤ (spJ (spT g k) (spT g k).2.2)) (zi_le (zi_N (n := fHo (g k)) (by omega)) (spI_int (by omega))) dX3_spread_60 (by decide) (fun c18_ => ?_) (fun c18_ => ?_)
              · -- 60 taken
                refine z_iload_n C dX3_spread_72 rfl 2 rfl ?_
                refine z_istore_n (lv' := [(2, .int ((spI (spT g k) (spT g k).2.2))), (1, .int (nI (fHo (g k)))), (0, .ref m0), (3, .int (nI k))]) C dX3_spread_73 rfl (by decide) rfl ?_
                refine z_iinc (v := nI (k + 1)) (lv' := [(3, .int (nI (k + 1))), (2, .int ((spI (spT g k) (spT g k).2.2))), (1, .int (nI (fHo (g k)))), (0, .ref m0)]) C dX3_spread_74 3 rfl (nI_add k 1) (by decide) rfl ?_
                refine z_goto C 11 dX3_spread_77 (by decide) ?_
                have e9 : spT g (k + 1) = (1, fHo (g k), (spT g k).2.2) := by rw [spT, if_pos (show fCr (g k) = 0 by omega)]; simp only [if_neg (show ¬ (spT g k).1 = 0 by omega)]; rw [if_pos (show fHo (g k) < (spT g k).2.1 by omega), if_neg (show ¬ (spT g k).2.2 < fHo (g k) by omega)]
                have f1 : nI (fHo (g k)) = spI (spT g (k + 1)) (spT g (k + 1)).2.1 := by rw [e9]; rfl
                have f2 : spI (spT g k) (spT g k).2.2 = spI (spT g (k + 1)) (spT g (k + 1)).2.2 := by rw [e9]; unfold spI; rw [if_neg (show ¬ (spT g k).1 = 0 by omega)]; rfl
                refine z_lvs (lv' := [(3, .int (nI (k + 1))), (2, .int ((spI (spT g (k + 1)) (spT g (k + 1)).2.2))), (1, .int ((spI (spT g (k + 1)) (spT g (k + 1)).2.1))), (0, .ref m0)]) (by first | (rw [f1, f2]) | (rw [f1, ← f2]; rfl)) ?_
                refine z_sub (lv' := [(0, .ref m0), (1, .int ((spI (spT g (k + 1)) (spT g (k + 1)).2.1))), (2, .int ((spI (spT g (k + 1)) (spT g (k + 1)).2.2))), (3, .int (nI (k + 1)))]) [3, 2, 1, 0] rfl ?_
                exact ih11 (k + 1) (by omega) (by omega)
              · -- 60 not taken
                refine z_aload_n C dX3_spread_63 rfl 1 rfl ?_
                refine z_get (ref := "ShedwheelModel") (v := .ref c4) C hin_X3_spread_X3 hLm h2_ rfl 4 (by decide) (by decide +kernel) (fun _ h9 => h9) rfl dX3_spread_64 ?_
                refine z_iload_n C dX3_spread_67 rfl 3 rfl ?_
                refine z_iald C hLc4 h8_ (by omega) (by omega) dX3_spread_68 (nI (fHo (g k))) (rfl) ?_
                refine z_goto C 73 dX3_spread_69 (by decide) ?_
                refine z_istore_n (lv' := [(2, .int (nI (fHo (g k)))), (1, .int (nI (fHo (g k)))), (0, .ref m0), (3, .int (nI k))]) C dX3_spread_73 rfl (by decide) rfl ?_
                refine z_iinc (v := nI (k + 1)) (lv' := [(3, .int (nI (k + 1))), (2, .int (nI (fHo (g k)))), (1, .int (nI (fHo (g k)))), (0, .ref m0)]) C dX3_spread_74 3 rfl (nI_add k 1) (by decide) rfl ?_
                refine z_goto C 11 dX3_spread_77 (by decide) ?_
                have e9 : spT g (k + 1) = (1, fHo (g k), fHo (g k)) := by rw [spT, if_pos (show fCr (g k) = 0 by omega)]; simp only [if_neg (show ¬ (spT g k).1 = 0 by omega)]; rw [if_pos (show fHo (g k) < (spT g k).2.1 by omega), if_pos (show (spT g k).2.2 < fHo (g k) by omega)]
                have f1 : nI (fHo (g k)) = spI (spT g (k + 1)) (spT g (k + 1)).2.1 := by rw [e9]; rfl
                have f2 : nI (fHo (g k)) = spI (spT g (k + 1)) (spT g (k + 1)).2.2 := by rw [e9]; rfl
                refine z_lvs (lv' := [(3, .int (nI (k + 1))), (2, .int ((spI (spT g (k + 1)) (spT g (k + 1)).2.2))), (1, .int ((spI (spT g (k + 1)) (spT g (k + 1)).2.1))), (0, .ref m0)]) (by rw [← f1, ← f2]) ?_
                refine z_sub (lv' := [(0, .ref m0), (1, .int ((spI (spT g (k + 1)) (spT g (k + 1)).2.1))), (2, .int ((spI (spT g (k + 1)) (spT g (k + 1)).2.2))), (3, .int (nI (k + 1)))]) [3, 2, 1, 0] rfl ?_
                exact ih11 (k + 1) (by omega) (by omega)
  exact lp11 _ 0 (Nat.zero_le _) (Nat.lt_succ_self _)

def mcJ (t : Nat × Nat × Nat) : Int := if t.1 = 0 then -1 else (t.2.1 : Int)
theorem mcI_int {t : Nat × Nat × Nat} (h : t.2.1 < 2147483648) : (mcI t).toInt = mcJ t := by
  unfold mcI mcJ; split
  · decide
  · exact nI_toInt (by omega)
theorem mcT_at {fd : Nat → FdT} : ∀ {k : Nat}, ¬ (mcT fd k).1 = 0 → (mcT fd k).2.1 < k ∧ (mcT fd k).2.2 = fHo (fd (mcT fd k).2.1)
  | 0, h => absurd rfl h
  | k + 1, h => by
    rw [mcT] at h ⊢
    split
    · exact ⟨Nat.lt_succ_self k, rfl⟩
    · rw [if_neg (by assumption)] at h
      obtain ⟨h1, h2⟩ := mcT_at h
      exact ⟨by omega, h2⟩

set_option maxRecDepth 100000 in
theorem hin_X3_mostCut_X3 : ∀ w ∈ u_ws RX3 TX3 11, w ∈ wsX3_mostCut := by decide +kernel
set_option maxHeartbeats 4000000 in
set_option maxRecDepth 100000 in
theorem c_X3_mostCut (l : Launch) (hlst : l.stackTraces = false) (G : zGt) (L : List Nat) (F : Nat → va_E) (m0 c0 c1 c2 c3 c4 c5 c6 : Nat) (n now sl thr : Nat) (g : Nat → FdT) (hmo : zMo G L F m0 c0 c1 c2 c3 c4 c5 c6 n now sl thr g)  : zM l yX3_mostCut wsX3_mostCut 2 45 0 0 G L F [.ref m0] (fun rv L1 F1 => rv = some (.int (mcI (mcT g n))) ∧ L1 = L ∧ zMo G L F1 m0 c0 c1 c2 c3 c4 c5 c6 n now sl 0 g ∧ (∀ b, b ≠ m0 → b ≠ c0 → b ≠ c1 → b ≠ c2 → b ≠ c3 → b ≠ c4 → b ≠ c5 → b ≠ c6 → F1 b = F b)) := by
  obtain ⟨⟨hLm, hLc0, hLc1, hLc2, hLc3, hLc4, hLc5, hLc6⟩, ⟨hFm, hFc0, hFc1, hFc2, hFc3, hFc4, hFc5, hFc6⟩, hNc, hGg, ⟨hn, hnow, hsl, hthr⟩⟩ := id hmo
  refine z_of (cc := cX3_mostCut) (nL := 3) (ret := (some .int)) (own := RX3) hlst (by decide +kernel) rfl rfl (Nat.le_of_ble_eq_true rfl) ?_
  intro p e s m below meth c A hnm C
  refine z_lvs (lv' := [(0, .ref m0)]) rfl ?_
  refine z_aload_n C dX3_mostCut_0 rfl 0 rfl ?_
  refine z_iconst C (nI 0) dX3_mostCut_1 (by decide) ?_
  refine z_put (ref := "ShedwheelModel") (v := .int (nI 0)) (fs' := [.ref c0, .ref c1, .ref c2, .ref c3, .ref c4, .ref c5, .ref c6, .int (nI n), .int (nI sl), .int (nI now), .int (nI 0)]) C hin_X3_mostCut_X3 tyX3 tyX3_ok nmX3 hLm hFm rfl 10 (by decide) (by decide +kernel) (fun _ h9 => h9) rfl rfl rfl (Nat.le_of_ble_eq_true rfl) rfl dX3_mostCut_2 (fun F1_ h2_ k3_ => ?_)
  have h4_ : F1_ c0 = .inl (G.2.1, 12, .inl (fun i9 => nI (fMw (g i9)))) := (k3_ c0 (zne hFc0 hFm rfl)).trans hFc0
  have h5_ : F1_ c1 = .inl (G.2.1, 12, .inl (fun i9 => nI (fCr (g i9)))) := (k3_ c1 (zne hFc1 hFm rfl)).trans hFc1
  have h6_ : F1_ c2 = .inl (G.2.1, 12, .inl (fun i9 => nI (fSg (g i9)))) := (k3_ c2 (zne hFc2 hFm rfl)).trans hFc2
  have h7_ : F1_ c3 = .inl (G.2.1, 12, .inl (fun i9 => nI (fOf (g i9)))) := (k3_ c3 (zne hFc3 hFm rfl)).trans hFc3
  have h8_ : F1_ c4 = .inl (G.2.1, 12, .inl (fun i9 => nI (fHo (g i9)))) := (k3_ c4 (zne hFc4 hFm rfl)).trans hFc4
  have h9_ : F1_ c5 = .inl (G.2.1, 12, .inl (fun i9 => nI (fTh (g i9)))) := (k3_ c5 (zne hFc5 hFm rfl)).trans hFc5
  have h10_ : F1_ c6 = .inl (G.2.1, 12, .inl (fun i9 => nI (fCo (g i9)))) := (k3_ c6 (zne hFc6 hFm rfl)).trans hFc6
  have kc11_ : ∀ b, b ≠ m0 → F1_ b = F b := fun b q0 => k3_ b q0
  have hmoT : zMo G L F1_ m0 c0 c1 c2 c3 c4 c5 c6 n now sl 0 g := ⟨⟨hLm, hLc0, hLc1, hLc2, hLc3, hLc4, hLc5, hLc6⟩, ⟨h2_, h4_, h5_, h6_, h7_, h8_, h9_, h10_⟩, hNc, hGg, ⟨hn, hnow, hsl, by omega⟩⟩
  refine z_iconst C (-1) dX3_mostCut_5 (by decide) ?_
  refine z_istore_n (lv' := [(1, .int (-1)), (0, .ref m0)]) C dX3_mostCut_6 rfl (by decide) rfl ?_
  refine z_iconst C (nI 0) dX3_mostCut_7 (by decide) ?_
  refine z_istore_n (lv' := [(2, .int (nI 0)), (1, .int (-1)), (0, .ref m0)]) C dX3_mostCut_8 rfl (by decide) rfl ?_
  refine z_lvs (lv' := [(2, .int (nI 0)), (1, .int (mcI (mcT g 0))), (0, .ref m0)]) rfl ?_
  refine z_sub (lv' := [(0, .ref m0), (1, .int (mcI (mcT g 0))), (2, .int (nI 0))]) [2, 1, 0] rfl ?_
  have lp9 : ∀ (N9 : Nat) (k : Nat) (hk : k ≤ n) (h9 : n - k < N9), zW p l e { frames := 2, cells := 0, slots := 0, locals := 45 } s m [.ref m0].toArray below meth c 3 G A (MQ below (zQ G (fun rv L1 F1 => rv = some (.int (mcI (mcT g n))) ∧ L1 = L ∧ zMo G L F1 m0 c0 c1 c2 c3 c4 c5 c6 n now sl 0 g ∧ (∀ b, b ≠ m0 → b ≠ c0 → b ≠ c1 → b ≠ c2 → b ≠ c3 → b ≠ c4 → b ≠ c5 → b ≠ c6 → F1 b = F b)) A) [.ref m0].toArray s 0 0 A) 0 0 L F1_ 9 [(0, .ref m0), (1, .int (mcI (mcT g k))), (2, .int (nI k))] [] := by
    intro N9
    induction N9 with
    | zero => intro k hk h9; exact absurd h9 (Nat.not_lt_zero _)
    | succ N9 ih9 =>
      intro k hk hN9
      refine z_iload_n C dX3_mostCut_9 rfl 2 rfl ?_
      obtain ⟨s1, s2⟩ := mcT_ok (fd := g) (B := now) (k := k) (fun j hj => (hGg.1 j (by omega)).2.2.2.2.2.1)
      refine z_aload_n C dX3_mostCut_10 rfl 0 rfl ?_
      refine z_get (ref := "ShedwheelModel") (v := .int (nI n)) C hin_X3_mostCut_X3 hLm h2_ rfl 7 (by decide) (by decide +kernel) (fun _ h9 => h9) rfl dX3_mostCut_11 ?_
      refine z_icmp_ge C 52 (((n : Nat) : Int) ≤ ((k : Nat) : Int)) (zi_le (zi_N (n := n) (by omega)) (zi_N (n := k) (by omega))) dX3_mostCut_14 (by decide) (fun c12_ => ?_) (fun c12_ => ?_)
      · -- 14 taken
        refine z_iload_n C dX3_mostCut_52 rfl 1 rfl ?_
        refine z_iret0 C rfl rfl (by decide) (by decide) dX3_mostCut_53 ?_
        obtain rfl : n = k := by omega
        exact ⟨rfl, rfl, hmoT, fun b q0 q1 q2 q3 q4 q5 q6 q7 => kc11_ b q0⟩
      · -- 14 not taken
        have hOk := hGg.1 k (by omega)
        obtain ⟨u1, u2, u3, u4, u5, u6, u7, u8⟩ := id hOk
        have s5 : ((mcT g k).1 = 0 ∧ mcJ (mcT g k) = -1) ∨ (¬ (mcT g k).1 = 0 ∧ mcJ (mcT g k) = ((mcT g k).2.1 : Int)) := by
          unfold mcJ; split
          · exact Or.inl ⟨by assumption, rfl⟩
          · exact Or.inr ⟨by assumption, rfl⟩
        refine z_aload_n C dX3_mostCut_17 rfl 0 rfl ?_
        refine z_iload_n C dX3_mostCut_18 rfl 2 rfl ?_
        refine z_callV (As := [.int (nI k)]) (st := []) (mc := 0) (ms := 0) C hLm h2_ rfl (c_X3_isFree l hlst G L F1_ m0 c0 c1 c2 c3 c4 c5 c6 n now sl 0 g hmoT k (by omega)) (cwV 1 C.1.2.2.2.2 gX3_mostCut_X3_isFree rfl rfl rfl (by decide +kernel) ⟨Nat.le_of_ble_eq_true rfl, Nat.le_of_ble_eq_true rfl⟩) rfl (Nat.le_of_ble_eq_true rfl) ⟨Nat.le_of_ble_eq_true rfl, Nat.le_of_ble_eq_true rfl⟩ dX3_mostCut_19 (z_p ?_)
        refine z_stk (st' := [.int (nI (if fOf (g k) = 0 ∧ fCr (g k) = 0 then 1 else 0))]) rfl ?_
        refine z_if_eq C 46 (¬ (fOf (g k) = 0 ∧ fCr (g k) = 0)) (zif_iff) dX3_mostCut_22 (by decide) (fun c13_ => ?_) (fun c13_ => ?_)
        · -- 22 taken
          refine z_iinc (v := nI (k + 1)) (lv' := [(2, .int (nI (k + 1))), (0, .ref m0), (1, .int (mcI (mcT g k)))]) C dX3_mostCut_46 2 rfl (nI_add k 1) (by decide) rfl ?_
          refine z_goto C 9 dX3_mostCut_49 (by decide) ?_
          have e9 : mcT g (k + 1) = mcT g k := by rw [mcT, if_neg (by omega)]
          refine z_lvs (lv' := [(2, .int (nI (k + 1))), (0, .ref m0), (1, .int (mcI (mcT g (k + 1))))]) (by rw [e9] <;> rfl) ?_
          refine z_sub (lv' := [(0, .ref m0), (1, .int (mcI (mcT g (k + 1)))), (2, .int (nI (k + 1)))]) [1, 2, 0] rfl ?_
          exact ih9 (k + 1) (by omega) (by omega)
        · -- 22 not taken
          refine z_iload_n C dX3_mostCut_25 rfl 1 rfl ?_
          refine z_if_lt C 44 ((mcJ (mcT g k)) < (0 : Int)) (zi_lt (mcI_int (by omega)) zi_0) dX3_mostCut_26 (by decide) (fun c14_ => ?_) (fun c14_ => ?_)
          · -- 26 taken
            refine z_iload_n C dX3_mostCut_44 rfl 2 rfl ?_
            refine z_istore_n (lv' := [(1, .int (nI k)), (0, .ref m0), (2, .int (nI k))]) C dX3_mostCut_45 rfl (by decide) rfl ?_
            refine z_iinc (v := nI (k + 1)) (lv' := [(2, .int (nI (k + 1))), (1, .int (nI k)), (0, .ref m0)]) C dX3_mostCut_46 2 rfl (nI_add k 1) (by decide) rfl ?_
            refine z_goto C 9 dX3_mostCut_49 (by decide) ?_
            have e9 : mcT g (k + 1) = (1, k, fHo (g k)) := by rw [mcT, if_pos (by omega)]
            refine z_lvs (lv' := [(2, .int (nI (k + 1))), (1, .int (mcI (mcT g (k + 1)))), (0, .ref m0)]) (by rw [e9] <;> rfl) ?_
            refine z_sub (lv' := [(0, .ref m0), (1, .int (mcI (mcT g (k + 1)))), (2, .int (nI (k + 1)))]) [2, 1, 0] rfl ?_
            exact ih9 (k + 1) (by omega) (by omega)
          · -- 26 not taken
            obtain ⟨s6, s7⟩ := mcT_at (fd := g) (k := k) (by omega)
            have s8 : mcI (mcT g k) = nI (mcT g k).2.1 := by unfold mcI; rw [if_neg (by omega)]
            refine z_lvs (lv' := [(0, .ref m0), (1, .int (nI ((mcT g k).2.1))), (2, .int (nI k))]) (by rw [s8]) ?_
            refine z_aload_n C dX3_mostCut_29 rfl 0 rfl ?_
            refine z_get (ref := "ShedwheelModel") (v := .ref c4) C hin_X3_mostCut_X3 hLm h2_ rfl 4 (by decide) (by decide +kernel) (fun _ h9 => h9) rfl dX3_mostCut_30 ?_
            refine z_iload_n C dX3_mostCut_33 rfl 2 rfl ?_
            refine z_iald C hLc4 h8_ (by omega) (by omega) dX3_mostCut_34 (nI (fHo (g k))) (rfl) ?_
            refine z_aload_n C dX3_mostCut_35 rfl 0 rfl ?_
            refine z_get (ref := "ShedwheelModel") (v := .ref c4) C hin_X3_mostCut_X3 hLm h2_ rfl 4 (by decide) (by decide +kernel) (fun _ h9 => h9) rfl dX3_mostCut_36 ?_
            refine z_iload_n C dX3_mostCut_39 rfl 1 rfl ?_
            refine z_iald C hLc4 h8_ (by omega) (by omega) dX3_mostCut_40 (nI (fHo (g ((mcT g k).2.1)))) (rfl) ?_
            refine z_icmp_le C 46 (((fHo (g k) : Nat) : Int) ≤ ((fHo (g ((mcT g k).2.1)) : Nat) : Int)) (zi_le (zi_N (n := fHo (g k)) (by omega)) (zi_N (n := fHo (g ((mcT g k).2.1))) (by omega))) dX3_mostCut_41 (by decide) (fun c15_ => ?_) (fun c15_ => ?_)
            · -- 41 taken
              refine z_lvs (lv' := [(0, .ref m0), (1, .int (mcI (mcT g k))), (2, .int (nI k))]) (by rw [s8]) ?_
              refine z_iinc (v := nI (k + 1)) (lv' := [(2, .int (nI (k + 1))), (0, .ref m0), (1, .int (mcI (mcT g k)))]) C dX3_mostCut_46 2 rfl (nI_add k 1) (by decide) rfl ?_
              refine z_goto C 9 dX3_mostCut_49 (by decide) ?_
              have e9 : mcT g (k + 1) = mcT g k := by rw [mcT, if_neg (by omega)]
              refine z_lvs (lv' := [(2, .int (nI (k + 1))), (0, .ref m0), (1, .int (mcI (mcT g (k + 1))))]) (by rw [e9] <;> rfl) ?_
              refine z_sub (lv' := [(0, .ref m0), (1, .int (mcI (mcT g (k + 1)))), (2, .int (nI (k + 1)))]) [1, 2, 0] rfl ?_
              exact ih9 (k + 1) (by omega) (by omega)
            · -- 41 not taken
              refine z_iload_n C dX3_mostCut_44 rfl 2 rfl ?_
              refine z_istore_n (lv' := [(1, .int (nI k)), (0, .ref m0), (2, .int (nI k))]) C dX3_mostCut_45 rfl (by decide) rfl ?_
              refine z_iinc (v := nI (k + 1)) (lv' := [(2, .int (nI (k + 1))), (1, .int (nI k)), (0, .ref m0)]) C dX3_mostCut_46 2 rfl (nI_add k 1) (by decide) rfl ?_
              refine z_goto C 9 dX3_mostCut_49 (by decide) ?_
              have e9 : mcT g (k + 1) = (1, k, fHo (g k)) := by rw [mcT, if_pos (by omega)]
              refine z_lvs (lv' := [(2, .int (nI (k + 1))), (1, .int (mcI (mcT g (k + 1)))), (0, .ref m0)]) (by rw [e9] <;> rfl) ?_
              refine z_sub (lv' := [(0, .ref m0), (1, .int (mcI (mcT g (k + 1)))), (2, .int (nI (k + 1)))]) [2, 1, 0] rfl ?_
              exact ih9 (k + 1) (by omega) (by omega)
  exact lp9 _ 0 (Nat.zero_le _) (Nat.lt_succ_self _)
