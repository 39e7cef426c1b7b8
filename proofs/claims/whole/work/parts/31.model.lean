set_option maxHeartbeats 4000000 in
set_option maxRecDepth 100000 in
theorem c_X3_in (l : Launch) (hlst : l.stackTraces = false) (G : zGt) (L : List Nat) (F : Nat → va_E) (v lo hi : Int32) (vlo vhi : Int) (hlo : lo.toInt = vlo) (hhi : hi.toInt = vhi) : zM l yX3_in wsX3_in 1 24 0 0 G L F [.int v, .int lo, .int hi] (fun rv L1 F1 => rv = some (.int (nI (if vlo ≤ v.toInt ∧ v.toInt ≤ vhi then 1 else 0))) ∧ L1 = L ∧ F1 = F) := by
  refine z_of (cc := cX3_in) (nL := 3) (ret := (some .boolean)) (own := RX3) hlst (by decide +kernel) rfl rfl (Nat.le_of_ble_eq_true rfl) ?_
  intro p e s m below meth c A hnm C
  refine z_lvs (lv' := [(0, .int v), (1, .int lo), (2, .int hi)]) rfl ?_
  refine z_iload_n C dX3_in_0 rfl 0 rfl ?_
  refine z_iload_n C dX3_in_1 rfl 1 rfl ?_
  refine z_icmp_lt C 14 ((v).toInt < vlo) (zi_lt rfl hlo) dX3_in_2 (by decide) (fun c1_ => ?_) (fun c1_ => ?_)
  · -- 2 taken
    refine z_iconst C (nI 0) dX3_in_14 (by decide) ?_
    refine z_iret0 C rfl rfl (by decide) (by decide) dX3_in_15 ?_
    exact ⟨by rw [if_neg (by omega)], rfl, rfl⟩
  · -- 2 not taken
    refine z_iload_n C dX3_in_5 rfl 0 rfl ?_
    refine z_iload_n C dX3_in_6 rfl 2 rfl ?_
    refine z_icmp_gt C 14 (vhi < (v).toInt) (zi_lt hhi rfl) dX3_in_7 (by decide) (fun c2_ => ?_) (fun c2_ => ?_)
    · -- 7 taken
      refine z_iconst C (nI 0) dX3_in_14 (by decide) ?_
      refine z_iret0 C rfl rfl (by decide) (by decide) dX3_in_15 ?_
      exact ⟨by rw [if_neg (by omega)], rfl, rfl⟩
    · -- 7 not taken
      refine z_iconst C (nI 1) dX3_in_10 (by decide) ?_
      refine z_goto C 15 dX3_in_11 (by decide) ?_
      refine z_iret0 C rfl rfl (by decide) (by decide) dX3_in_15 ?_
      exact ⟨by rw [if_pos (by omega)], rfl, rfl⟩

set_option maxRecDepth 100000 in
theorem hin_X3_thrown_X3 : ∀ w ∈ u_ws RX3 TX3 11, w ∈ wsX3_thrown := by decide +kernel
set_option maxHeartbeats 4000000 in
set_option maxRecDepth 100000 in
theorem c_X3_thrown (l : Launch) (hlst : l.stackTraces = false) (G : zGt) (L : List Nat) (F : Nat → va_E) (m0 c0 c1 c2 c3 c4 c5 c6 : Nat) (n now sl thr : Nat) (g : Nat → FdT) (hmo : zMo G L F m0 c0 c1 c2 c3 c4 c5 c6 n now sl thr g)  : zM l yX3_thrown wsX3_thrown 1 24 0 0 G L F [.ref m0] (fun rv L1 F1 => rv = some (.int (nI thr)) ∧ L1 = L ∧ F1 = F) := by
  obtain ⟨⟨hLm, hLc0, hLc1, hLc2, hLc3, hLc4, hLc5, hLc6⟩, ⟨hFm, hFc0, hFc1, hFc2, hFc3, hFc4, hFc5, hFc6⟩, hNc, hGg, ⟨hn, hnow, hsl, hthr⟩⟩ := id hmo
  refine z_of (cc := cX3_thrown) (nL := 1) (ret := (some .int)) (own := RX3) hlst (by decide +kernel) rfl rfl (Nat.le_of_ble_eq_true rfl) ?_
  intro p e s m below meth c A hnm C
  refine z_lvs (lv' := [(0, .ref m0)]) rfl ?_
  refine z_aload_n C dX3_thrown_0 rfl 0 rfl ?_
  refine z_get (ref := "ShedwheelModel") (v := .int (nI thr)) C hin_X3_thrown_X3 hLm hFm rfl 10 (by decide) (by decide +kernel) (fun _ h9 => h9) rfl dX3_thrown_1 ?_
  refine z_iret0 C rfl rfl (by decide) (by decide) dX3_thrown_4 ?_
  exact ⟨rfl, rfl, rfl⟩

set_option maxRecDepth 100000 in
theorem hin_X3_fails_X3 : ∀ w ∈ u_ws RX3 TX3 11, w ∈ wsX3_fails := by decide +kernel
set_option maxHeartbeats 4000000 in
set_option maxRecDepth 100000 in
theorem c_X3_fails (l : Launch) (hlst : l.stackTraces = false) (G : zGt) (L : List Nat) (F : Nat → va_E) (m0 c0 c1 c2 c3 c4 c5 c6 : Nat) (n now sl thr : Nat) (g : Nat → FdT) (hmo : zMo G L F m0 c0 c1 c2 c3 c4 c5 c6 n now sl thr g) (th : Nat) (hth : th ≤ 2) : zM l yX3_fails wsX3_fails 1 24 0 0 G L F [.ref m0, .int (nI th)] (fun rv L1 F1 => rv = some (.int (nI 0)) ∧ L1 = L ∧ zMo G L F1 m0 c0 c1 c2 c3 c4 c5 c6 n now sl th g ∧ ∀ b, b ≠ m0 → F1 b = F b) := by
  obtain ⟨⟨hLm, hLc0, hLc1, hLc2, hLc3, hLc4, hLc5, hLc6⟩, ⟨hFm, hFc0, hFc1, hFc2, hFc3, hFc4, hFc5, hFc6⟩, hNc, hGg, ⟨hn, hnow, hsl, hthr⟩⟩ := id hmo
  refine z_of (cc := cX3_fails) (nL := 2) (ret := (some .int)) (own := RX3) hlst (by decide +kernel) rfl rfl (Nat.le_of_ble_eq_true rfl) ?_
  intro p e s m below meth c A hnm C
  refine z_lvs (lv' := [(0, .ref m0), (1, .int (nI th))]) rfl ?_
  refine z_aload_n C dX3_fails_0 rfl 0 rfl ?_
  refine z_iload_n C dX3_fails_1 rfl 1 rfl ?_
  refine z_put (ref := "ShedwheelModel") (v := .int (nI th)) (fs' := [.ref c0, .ref c1, .ref c2, .ref c3, .ref c4, .ref c5, .ref c6, .int (nI n), .int (nI sl), .int (nI now), .int (nI th)]) C hin_X3_fails_X3 tyX3 tyX3_ok nmX3 hLm hFm rfl 10 (by decide) (by decide +kernel) (fun _ h9 => h9) rfl rfl rfl (Nat.le_of_ble_eq_true rfl) rfl dX3_fails_2 (fun F1_ h2_ k3_ => ?_)
  have h4_ : F1_ c0 = .inl (G.2.1, 12, .inl (fun i9 => nI (fMw (g i9)))) := (k3_ c0 (zne hFc0 hFm rfl)).trans hFc0
  have h5_ : F1_ c1 = .inl (G.2.1, 12, .inl (fun i9 => nI (fCr (g i9)))) := (k3_ c1 (zne hFc1 hFm rfl)).trans hFc1
  have h6_ : F1_ c2 = .inl (G.2.1, 12, .inl (fun i9 => nI (fSg (g i9)))) := (k3_ c2 (zne hFc2 hFm rfl)).trans hFc2
  have h7_ : F1_ c3 = .inl (G.2.1, 12, .inl (fun i9 => nI (fOf (g i9)))) := (k3_ c3 (zne hFc3 hFm rfl)).trans hFc3
  have h8_ : F1_ c4 = .inl (G.2.1, 12, .inl (fun i9 => nI (fHo (g i9)))) := (k3_ c4 (zne hFc4 hFm rfl)).trans hFc4
  have h9_ : F1_ c5 = .inl (G.2.1, 12, .inl (fun i9 => nI (fTh (g i9)))) := (k3_ c5 (zne hFc5 hFm rfl)).trans hFc5
  have h10_ : F1_ c6 = .inl (G.2.1, 12, .inl (fun i9 => nI (fCo (g i9)))) := (k3_ c6 (zne hFc6 hFm rfl)).trans hFc6
  have kc11_ : ∀ b, b ≠ m0 → F1_ b = F b := fun b q0 => k3_ b q0
  refine z_iconst C (nI 0) dX3_fails_5 (by decide) ?_
  refine z_iret0 C rfl rfl (by decide) (by decide) dX3_fails_6 ?_
  have hmo2 : zMo G L F1_ m0 c0 c1 c2 c3 c4 c5 c6 n now sl th g := ⟨⟨hLm, hLc0, hLc1, hLc2, hLc3, hLc4, hLc5, hLc6⟩, ⟨h2_, h4_, h5_, h6_, h7_, h8_, h9_, h10_⟩, hNc, hGg, ⟨hn, hnow, hsl, by omega⟩⟩
  exact ⟨rfl, rfl, hmo2, fun b q0 => kc11_ b q0⟩

set_option maxRecDepth 100000 in
theorem hin_X3_isThere_X3 : ∀ w ∈ u_ws RX3 TX3 11, w ∈ wsX3_isThere := by decide +kernel
set_option maxHeartbeats 4000000 in
set_option maxRecDepth 100000 in
theorem c_X3_isThere (l : Launch) (hlst : l.stackTraces = false) (G : zGt) (L : List Nat) (F : Nat → va_E) (m0 c0 c1 c2 c3 c4 c5 c6 : Nat) (n now sl thr : Nat) (g : Nat → FdT) (hmo : zMo G L F m0 c0 c1 c2 c3 c4 c5 c6 n now sl thr g) (x : Int32) : zM l yX3_isThere wsX3_isThere 2 46 0 0 G L F [.ref m0, .int x] (fun rv L1 F1 => rv = some (.int (nI (if 0 ≤ x.toInt ∧ x.toInt ≤ (n : Int) - 1 then 1 else 0))) ∧ L1 = L ∧ F1 = F) := by
  obtain ⟨⟨hLm, hLc0, hLc1, hLc2, hLc3, hLc4, hLc5, hLc6⟩, ⟨hFm, hFc0, hFc1, hFc2, hFc3, hFc4, hFc5, hFc6⟩, hNc, hGg, ⟨hn, hnow, hsl, hthr⟩⟩ := id hmo
  refine z_of (cc := cX3_isThere) (nL := 2) (ret := (some .boolean)) (own := RX3) hlst (by decide +kernel) rfl rfl (Nat.le_of_ble_eq_true rfl) ?_
  intro p e s m below meth c A hnm C
  refine z_lvs (lv' := [(0, .ref m0), (1, .int x)]) rfl ?_
  refine z_iload_n C dX3_isThere_0 rfl 1 rfl ?_
  refine z_iconst C (nI 0) dX3_isThere_1 (by decide) ?_
  refine z_aload_n C dX3_isThere_2 rfl 0 rfl ?_
  refine z_get (ref := "ShedwheelModel") (v := .int (nI n)) C hin_X3_isThere_X3 hLm hFm rfl 7 (by decide) (by decide +kernel) (fun _ h9 => h9) rfl dX3_isThere_3 ?_
  refine z_iconst C (nI 1) dX3_isThere_6 (by decide) ?_
  refine z_isub C ((nI n - nI 1)) dX3_isThere_7 (rfl) ?_
  refine z_callS (As := [.int x, .int (nI 0), .int ((nI n - nI 1))]) (st := []) (mc := 0) (ms := 0) C (c_X3_in l hlst G L F x (nI 0) ((nI n - nI 1)) (((0 : Nat) : Int)) (((n : Nat) : Int) - 1) (zi_N (n := 0) (by omega)) (pk_sub_toInt (a := n) (b := 1) (by omega) (by omega))) (va_cwS 3 C.1.2.2.2.2 gX3_isThere_X3_in rfl rfl rfl (by decide +kernel) ⟨Nat.le_of_ble_eq_true rfl, Nat.le_of_ble_eq_true rfl⟩) rfl (Nat.le_of_ble_eq_true rfl) ⟨Nat.le_of_ble_eq_true rfl, Nat.le_of_ble_eq_true rfl⟩ dX3_isThere_8 (z_p ?_)
  refine z_stk (st' := [.int (nI (if ((0 : Nat) : Int) ≤ (x).toInt ∧ (x).toInt ≤ ((n : Nat) : Int) - 1 then 1 else 0))]) rfl ?_
  refine z_iret0 C rfl zb_if (by decide) (by decide) dX3_isThere_11 ?_
  exact ⟨rfl, rfl, rfl⟩

set_option maxRecDepth 100000 in
theorem hin_X3_coldThen_X3 : ∀ w ∈ u_ws RX3 TX3 11, w ∈ wsX3_coldThen := by decide +kernel
set_option maxHeartbeats 4000000 in
set_option maxRecDepth 100000 in
theorem c_X3_coldThen (l : Launch) (hlst : l.stackTraces = false) (G : zGt) (L : List Nat) (F : Nat → va_E) (m0 c0 c1 c2 c3 c4 c5 c6 : Nat) (n now sl thr : Nat) (g : Nat → FdT) (hmo : zMo G L F m0 c0 c1 c2 c3 c4 c5 c6 n now sl thr g) (k : Nat) (hk : k < n) : zM l yX3_coldThen wsX3_coldThen 1 24 0 0 G L F [.ref m0, .int (nI k)] (fun rv L1 F1 => rv = some (.int (nI (crV (fTh (g k))))) ∧ L1 = L ∧ F1 = F) := by
  obtain ⟨⟨hLm, hLc0, hLc1, hLc2, hLc3, hLc4, hLc5, hLc6⟩, ⟨hFm, hFc0, hFc1, hFc2, hFc3, hFc4, hFc5, hFc6⟩, hNc, hGg, ⟨hn, hnow, hsl, hthr⟩⟩ := id hmo
  have hOk := hGg.1 k hk
  obtain ⟨u1, u2, u3, u4, u5, u6, u7, u8⟩ := id hOk
  refine z_of (cc := cX3_coldThen) (nL := 2) (ret := (some .int)) (own := RX3) hlst (by decide +kernel) rfl rfl (Nat.le_of_ble_eq_true rfl) ?_
  intro p e s m below meth c A hnm C
  refine z_lvs (lv' := [(0, .ref m0), (1, .int (nI k))]) rfl ?_
  refine z_aload_n C dX3_coldThen_0 rfl 0 rfl ?_
  refine z_get (ref := "ShedwheelModel") (v := .ref c5) C hin_X3_coldThen_X3 hLm hFm rfl 5 (by decide) (by decide +kernel) (fun _ h9 => h9) rfl dX3_coldThen_1 ?_
  refine z_iload_n C dX3_coldThen_4 rfl 1 rfl ?_
  refine z_iald C hLc5 hFc5 (by omega) (by omega) dX3_coldThen_5 (nI (fTh (g k))) (rfl) ?_
  refine z_bipush C (nI 10) dX3_coldThen_6 (by decide) ?_
  refine z_icmp_le C 16 (((fTh (g k) : Nat) : Int) ≤ ((10 : Nat) : Int)) (zi_le (zi_N (n := fTh (g k)) (by omega)) (zi_N (n := 10) (by omega))) dX3_coldThen_8 (by decide) (fun c1_ => ?_) (fun c1_ => ?_)
  · -- 8 taken
    refine z_bipush C (nI 10) dX3_coldThen_16 (by decide) ?_
    refine z_aload_n C dX3_coldThen_18 rfl 0 rfl ?_
    refine z_get (ref := "ShedwheelModel") (v := .ref c5) C hin_X3_coldThen_X3 hLm hFm rfl 5 (by decide) (by decide +kernel) (fun _ h9 => h9) rfl dX3_coldThen_19 ?_
    refine z_iload_n C dX3_coldThen_22 rfl 1 rfl ?_
    refine z_iald C hLc5 hFc5 (by omega) (by omega) dX3_coldThen_23 (nI (fTh (g k))) (rfl) ?_
    refine z_imul C (nI (10 * (fTh (g k)))) dX3_coldThen_24 (pk_mul 10 (fTh (g k))) ?_
    refine z_iret0 C rfl rfl (by decide) (by decide) dX3_coldThen_25 ?_
    exact ⟨by rw [crV, if_pos (by omega)], rfl, rfl⟩
  · -- 8 not taken
    refine z_bipush C (nI 100) dX3_coldThen_11 (by decide) ?_
    refine z_goto C 25 dX3_coldThen_13 (by decide) ?_
    refine z_iret0 C rfl rfl (by decide) (by decide) dX3_coldThen_25 ?_
    exact ⟨by rw [crV, if_neg (by omega)], rfl, rfl⟩

set_option maxRecDepth 100000 in
theorem hin_X3_takesWith_X3 : ∀ w ∈ u_ws RX3 TX3 11, w ∈ wsX3_takesWith := by decide +kernel
set_option maxHeartbeats 4000000 in
set_option maxRecDepth 100000 in
theorem c_X3_takesWith (l : Launch) (hlst : l.stackTraces = false) (G : zGt) (L : List Nat) (F : Nat → va_E) (m0 c0 c1 c2 c3 c4 c5 c6 : Nat) (n now sl thr : Nat) (g : Nat → FdT) (hmo : zMo G L F m0 c0 c1 c2 c3 c4 c5 c6 n now sl thr g) (k : Nat) (hk : k < n) (co : Nat) (hco : co ≤ 100) : zM l yX3_takesWith wsX3_takesWith 1 24 0 0 G L F [.ref m0, .int (nI k), .int (nI co)] (fun rv L1 F1 => rv = some (.int (nI (fMw (g k) * (100 + co) / 100))) ∧ L1 = L ∧ F1 = F) := by
  obtain ⟨⟨hLm, hLc0, hLc1, hLc2, hLc3, hLc4, hLc5, hLc6⟩, ⟨hFm, hFc0, hFc1, hFc2, hFc3, hFc4, hFc5, hFc6⟩, hNc, hGg, ⟨hn, hnow, hsl, hthr⟩⟩ := id hmo
  have hOk := hGg.1 k hk
  obtain ⟨u1, u2, u3, u4, u5, u6, u7, u8⟩ := id hOk
  have hb9 : fMw (g k) * (100 + co) ≤ 999 * 200 := Nat.mul_le_mul u3 (by omega)
  refine z_of (cc := cX3_takesWith) (nL := 3) (ret := (some .int)) (own := RX3) hlst (by decide +kernel) rfl rfl (Nat.le_of_ble_eq_true rfl) ?_
  intro p e s m below meth c A hnm C
  refine z_lvs (lv' := [(0, .ref m0), (1, .int (nI k)), (2, .int (nI co))]) rfl ?_
  refine z_aload_n C dX3_takesWith_0 rfl 0 rfl ?_
  refine z_get (ref := "ShedwheelModel") (v := .ref c0) C hin_X3_takesWith_X3 hLm hFm rfl 0 (by decide) (by decide +kernel) (fun _ h9 => h9) rfl dX3_takesWith_1 ?_
  refine z_iload_n C dX3_takesWith_4 rfl 1 rfl ?_
  refine z_iald C hLc0 hFc0 (by omega) (by omega) dX3_takesWith_5 (nI (fMw (g k))) (rfl) ?_
  refine z_bipush C (nI 100) dX3_takesWith_6 (by decide) ?_
  refine z_iload_n C dX3_takesWith_8 rfl 2 rfl ?_
  refine z_iadd C (nI (100 + co)) dX3_takesWith_9 (nI_add 100 co) ?_
  refine z_imul C (nI ((fMw (g k)) * (100 + co))) dX3_takesWith_10 (pk_mul (fMw (g k)) (100 + co)) ?_
  refine z_bipush C (nI 100) dX3_takesWith_11 (by decide) ?_
  refine z_idiv C (nI (((fMw (g k)) * (100 + co)) / 100)) dX3_takesWith_13 (by decide) (pk_div (a := (fMw (g k)) * (100 + co)) (d := 100) (by omega) (by decide) (by decide)) ?_
  refine z_iret0 C rfl rfl (by decide) (by decide) dX3_takesWith_14 ?_
  exact ⟨rfl, rfl, rfl⟩

set_option maxRecDepth 100000 in
theorem hin_X3_takesOf_X3 : ∀ w ∈ u_ws RX3 TX3 11, w ∈ wsX3_takesOf := by decide +kernel
set_option maxHeartbeats 4000000 in
set_option maxRecDepth 100000 in
theorem c_X3_takesOf (l : Launch) (hlst : l.stackTraces = false) (G : zGt) (L : List Nat) (F : Nat → va_E) (m0 c0 c1 c2 c3 c4 c5 c6 : Nat) (n now sl thr : Nat) (g : Nat → FdT) (hmo : zMo G L F m0 c0 c1 c2 c3 c4 c5 c6 n now sl thr g) (k : Nat) (hk : k < n) : zM l yX3_takesOf wsX3_takesOf 2 46 0 0 G L F [.ref m0, .int (nI k)] (fun rv L1 F1 => rv = some (.int (nI (fTk (g k)))) ∧ L1 = L ∧ F1 = F) := by
  obtain ⟨⟨hLm, hLc0, hLc1, hLc2, hLc3, hLc4, hLc5, hLc6⟩, ⟨hFm, hFc0, hFc1, hFc2, hFc3, hFc4, hFc5, hFc6⟩, hNc, hGg, ⟨hn, hnow, hsl, hthr⟩⟩ := id hmo
  have hOk := hGg.1 k hk
  obtain ⟨u1, u2, u3, u4, u5, u6, u7, u8⟩ := id hOk
  refine z_of (cc := cX3_takesOf) (nL := 2) (ret := (some .int)) (own := RX3) hlst (by decide +kernel) rfl rfl (Nat.le_of_ble_eq_true rfl) ?_
  intro p e s m below meth c A hnm C
  refine z_lvs (lv' := [(0, .ref m0), (1, .int (nI k))]) rfl ?_
  refine z_aload_n C dX3_takesOf_0 rfl 0 rfl ?_
  refine z_get (ref := "ShedwheelModel") (v := .ref c3) C hin_X3_takesOf_X3 hLm hFm rfl 3 (by decide) (by decide +kernel) (fun _ h9 => h9) rfl dX3_takesOf_1 ?_
  refine z_iload_n C dX3_takesOf_4 rfl 1 rfl ?_
  refine z_iald C hLc3 hFc3 (by omega) (by omega) dX3_takesOf_5 (nI (fOf (g k))) (rfl) ?_
  refine z_iconst C (nI 1) dX3_takesOf_6 (by decide) ?_
  refine z_icmp_ne C 14 (((fOf (g k) : Nat) : Int) = ((1 : Nat) : Int)) (zi_eq (zi_N (n := fOf (g k)) (by omega)) (zi_N (n := 1) (by omega))) dX3_takesOf_7 (by decide) (fun c1_ => ?_) (fun c1_ => ?_)
  · -- 7 taken
    refine z_aload_n C dX3_takesOf_14 rfl 0 rfl ?_
    refine z_iload_n C dX3_takesOf_15 rfl 1 rfl ?_
    refine z_aload_n C dX3_takesOf_16 rfl 0 rfl ?_
    refine z_get (ref := "ShedwheelModel") (v := .ref c6) C hin_X3_takesOf_X3 hLm hFm rfl 6 (by decide) (by decide +kernel) (fun _ h9 => h9) rfl dX3_takesOf_17 ?_
    refine z_iload_n C dX3_takesOf_20 rfl 1 rfl ?_
    refine z_iald C hLc6 hFc6 (by omega) (by omega) dX3_takesOf_21 (nI (fCo (g k))) (rfl) ?_
    refine z_callV (As := [.int (nI k), .int (nI (fCo (g k)))]) (st := []) (mc := 0) (ms := 0) C hLm hFm rfl (c_X3_takesWith l hlst G L F m0 c0 c1 c2 c3 c4 c5 c6 n now sl thr g hmo k (by omega) (fCo (g k)) (by omega)) (cwV 2 C.1.2.2.2.2 gX3_takesOf_X3_takesWith rfl rfl rfl (by decide +kernel) ⟨Nat.le_of_ble_eq_true rfl, Nat.le_of_ble_eq_true rfl⟩) rfl (Nat.le_of_ble_eq_true rfl) ⟨Nat.le_of_ble_eq_true rfl, Nat.le_of_ble_eq_true rfl⟩ dX3_takesOf_22 (z_p ?_)
    refine z_stk (st' := [.int (nI (fMw (g k) * (100 + (fCo (g k))) / 100))]) rfl ?_
    refine z_iret0 C rfl rfl (by decide) (by decide) dX3_takesOf_25 ?_
    exact ⟨by rw [fTk, tkV, if_pos (by omega)], rfl, rfl⟩
  · -- 7 not taken
    refine z_iconst C (nI 0) dX3_takesOf_10 (by decide) ?_
    refine z_goto C 25 dX3_takesOf_11 (by decide) ?_
    refine z_iret0 C rfl rfl (by decide) (by decide) dX3_takesOf_25 ?_
    exact ⟨by rw [fTk, tkV, if_neg (by omega)], rfl, rfl⟩

set_option maxRecDepth 100000 in
theorem hin_X3_restoredOf_X3 : ∀ w ∈ u_ws RX3 TX3 11, w ∈ wsX3_restoredOf := by decide +kernel
set_option maxHeartbeats 4000000 in
set_option maxRecDepth 100000 in
theorem c_X3_restoredOf (l : Launch) (hlst : l.stackTraces = false) (G : zGt) (L : List Nat) (F : Nat → va_E) (m0 c0 c1 c2 c3 c4 c5 c6 : Nat) (n now sl thr : Nat) (g : Nat → FdT) (hmo : zMo G L F m0 c0 c1 c2 c3 c4 c5 c6 n now sl thr g) (k : Nat) (hk : k < n) : zM l yX3_restoredOf wsX3_restoredOf 3 67 0 0 G L F [.ref m0, .int (nI k)] (fun rv L1 F1 => rv = some (.int (nI (fRs (g k)))) ∧ L1 = L ∧ F1 = F) := by
  obtain ⟨⟨hLm, hLc0, hLc1, hLc2, hLc3, hLc4, hLc5, hLc6⟩, ⟨hFm, hFc0, hFc1, hFc2, hFc3, hFc4, hFc5, hFc6⟩, hNc, hGg, ⟨hn, hnow, hsl, hthr⟩⟩ := id hmo
  have hOk := hGg.1 k hk
  obtain ⟨u1, u2, u3, u4, u5, u6, u7, u8⟩ := id hOk
  have hcv := crV_le (fTh (g k))
  refine z_of (cc := cX3_restoredOf) (nL := 2) (ret := (some .int)) (own := RX3) hlst (by decide +kernel) rfl rfl (Nat.le_of_ble_eq_true rfl) ?_
  intro p e s m below meth c A hnm C
  refine z_lvs (lv' := [(0, .ref m0), (1, .int (nI k))]) rfl ?_
  refine z_aload_n C dX3_restoredOf_0 rfl 0 rfl ?_
  refine z_get (ref := "ShedwheelModel") (v := .ref c3) C hin_X3_restoredOf_X3 hLm hFm rfl 3 (by decide) (by decide +kernel) (fun _ h9 => h9) rfl dX3_restoredOf_1 ?_
  refine z_iload_n C dX3_restoredOf_4 rfl 1 rfl ?_
  refine z_iald C hLc3 hFc3 (by omega) (by omega) dX3_restoredOf_5 (nI (fOf (g k))) (rfl) ?_
  refine z_iconst C (nI 1) dX3_restoredOf_6 (by decide) ?_
  refine z_icmp_ne C 23 (((fOf (g k) : Nat) : Int) = ((1 : Nat) : Int)) (zi_eq (zi_N (n := fOf (g k)) (by omega)) (zi_N (n := 1) (by omega))) dX3_restoredOf_7 (by decide) (fun c1_ => ?_) (fun c1_ => ?_)
  · -- 7 taken
    refine z_aload_n C dX3_restoredOf_23 rfl 0 rfl ?_
    refine z_iload_n C dX3_restoredOf_24 rfl 1 rfl ?_
    refine z_callV (As := [.int (nI k)]) (st := []) (mc := 0) (ms := 0) C hLm hFm rfl (c_X3_takesOf l hlst G L F m0 c0 c1 c2 c3 c4 c5 c6 n now sl thr g hmo k (by omega)) (cwV 1 C.1.2.2.2.2 gX3_restoredOf_X3_takesOf rfl rfl rfl (by decide +kernel) ⟨Nat.le_of_ble_eq_true rfl, Nat.le_of_ble_eq_true rfl⟩) rfl (Nat.le_of_ble_eq_true rfl) ⟨Nat.le_of_ble_eq_true rfl, Nat.le_of_ble_eq_true rfl⟩ dX3_restoredOf_25 (z_p ?_)
    refine z_stk (st' := [.int (nI (fTk (g k)))]) rfl ?_
    refine z_iret0 C rfl rfl (by decide) (by decide) dX3_restoredOf_28 ?_
    exact ⟨by rw [fRs, rsV, if_pos (by omega)]; rw [fTk, tkV, if_pos (by omega)], rfl, rfl⟩
  · -- 7 not taken
    refine z_aload_n C dX3_restoredOf_10 rfl 0 rfl ?_
    refine z_iload_n C dX3_restoredOf_11 rfl 1 rfl ?_
    refine z_aload_n C dX3_restoredOf_12 rfl 0 rfl ?_
    refine z_iload_n C dX3_restoredOf_13 rfl 1 rfl ?_
    refine z_callV (As := [.int (nI k)]) (st := [.int (nI k), .ref m0]) (mc := 0) (ms := 0) C hLm hFm rfl (c_X3_coldThen l hlst G L F m0 c0 c1 c2 c3 c4 c5 c6 n now sl thr g hmo k (by omega)) (cwV 1 C.1.2.2.2.2 gX3_restoredOf_X3_coldThen rfl rfl rfl (by decide +kernel) ⟨Nat.le_of_ble_eq_true rfl, Nat.le_of_ble_eq_true rfl⟩) rfl (Nat.le_of_ble_eq_true rfl) ⟨Nat.le_of_ble_eq_true rfl, Nat.le_of_ble_eq_true rfl⟩ dX3_restoredOf_14 (z_p ?_)
    refine z_stk (st' := [.int (nI (crV (fTh (g k)))), .int (nI k), .ref m0]) rfl ?_
    refine z_callV (As := [.int (nI k), .int (nI (crV (fTh (g k))))]) (st := []) (mc := 0) (ms := 0) C hLm hFm rfl (c_X3_takesWith l hlst G L F m0 c0 c1 c2 c3 c4 c5 c6 n now sl thr g hmo k (by omega) (crV (fTh (g k))) (by omega)) (cwV 2 C.1.2.2.2.2 gX3_restoredOf_X3_takesWith rfl rfl rfl (by decide +kernel) ⟨Nat.le_of_ble_eq_true rfl, Nat.le_of_ble_eq_true rfl⟩) rfl (Nat.le_of_ble_eq_true rfl) ⟨Nat.le_of_ble_eq_true rfl, Nat.le_of_ble_eq_true rfl⟩ dX3_restoredOf_17 (z_p ?_)
    refine z_stk (st' := [.int (nI (fMw (g k) * (100 + (crV (fTh (g k)))) / 100))]) rfl ?_
    refine z_goto C 28 dX3_restoredOf_20 (by decide) ?_
    refine z_iret0 C rfl rfl (by decide) (by decide) dX3_restoredOf_28 ?_
    exact ⟨by rw [fRs, rsV, if_neg (by omega)], rfl, rfl⟩

set_option maxRecDepth 100000 in
theorem hin_X3_isFree_X3 : ∀ w ∈ u_ws RX3 TX3 11, w ∈ wsX3_isFree := by decide +kernel
set_option maxHeartbeats 4000000 in
set_option maxRecDepth 100000 in
theorem c_X3_isFree (l : Launch) (hlst : l.stackTraces = false) (G : zGt) (L : List Nat) (F : Nat → va_E) (m0 c0 c1 c2 c3 c4 c5 c6 : Nat) (n now sl thr : Nat) (g : Nat → FdT) (hmo : zMo G L F m0 c0 c1 c2 c3 c4 c5 c6 n now sl thr g) (k : Nat) (hk : k < n) : zM l yX3_isFree wsX3_isFree 1 24 0 0 G L F [.ref m0, .int (nI k)] (fun rv L1 F1 => rv = some (.int (nI (if fOf (g k) = 0 ∧ fCr (g k) = 0 then 1 else 0))) ∧ L1 = L ∧ F1 = F) := by
  obtain ⟨⟨hLm, hLc0, hLc1, hLc2, hLc3, hLc4, hLc5, hLc6⟩, ⟨hFm, hFc0, hFc1, hFc2, hFc3, hFc4, hFc5, hFc6⟩, hNc, hGg, ⟨hn, hnow, hsl, hthr⟩⟩ := id hmo
  have hOk := hGg.1 k hk
  obtain ⟨u1, u2, u3, u4, u5, u6, u7, u8⟩ := id hOk
  refine z_of (cc := cX3_isFree) (nL := 2) (ret := (some .boolean)) (own := RX3) hlst (by decide +kernel) rfl rfl (Nat.le_of_ble_eq_true rfl) ?_
  intro p e s m below meth c A hnm C
  refine z_lvs (lv' := [(0, .ref m0), (1, .int (nI k))]) rfl ?_
  refine z_aload_n C dX3_isFree_0 rfl 0 rfl ?_
  refine z_get (ref := "ShedwheelModel") (v := .ref c3) C hin_X3_isFree_X3 hLm hFm rfl 3 (by decide) (by decide +kernel) (fun _ h9 => h9) rfl dX3_isFree_1 ?_
  refine z_iload_n C dX3_isFree_4 rfl 1 rfl ?_
  refine z_iald C hLc3 hFc3 (by omega) (by omega) dX3_isFree_5 (nI (fOf (g k))) (rfl) ?_
  refine z_if_ne C 22 (((fOf (g k) : Nat) : Int) = (0 : Int)) (zi_eq (zi_N (n := fOf (g k)) (by omega)) zi_0) dX3_isFree_6 (by decide) (fun c1_ => ?_) (fun c1_ => ?_)
  · -- 6 taken
    refine z_iconst C (nI 0) dX3_isFree_22 (by decide) ?_
    refine z_iret0 C rfl rfl (by decide) (by decide) dX3_isFree_23 ?_
    exact ⟨by rw [if_neg (by omega)], rfl, rfl⟩
  · -- 6 not taken
    refine z_aload_n C dX3_isFree_9 rfl 0 rfl ?_
    refine z_get (ref := "ShedwheelModel") (v := .ref c1) C hin_X3_isFree_X3 hLm hFm rfl 1 (by decide) (by decide +kernel) (fun _ h9 => h9) rfl dX3_isFree_10 ?_
    refine z_iload_n C dX3_isFree_13 rfl 1 rfl ?_
    refine z_iald C hLc1 hFc1 (by omega) (by omega) dX3_isFree_14 (nI (fCr (g k))) (rfl) ?_
    refine z_if_ne C 22 (((fCr (g k) : Nat) : Int) = (0 : Int)) (zi_eq (zi_N (n := fCr (g k)) (by omega)) zi_0) dX3_isFree_15 (by decide) (fun c2_ => ?_) (fun c2_ => ?_)
    · -- 15 taken
      refine z_iconst C (nI 0) dX3_isFree_22 (by decide) ?_
      refine z_iret0 C rfl rfl (by decide) (by decide) dX3_isFree_23 ?_
      exact ⟨by rw [if_neg (by omega)], rfl, rfl⟩
    · -- 15 not taken
      refine z_iconst C (nI 1) dX3_isFree_18 (by decide) ?_
      refine z_goto C 23 dX3_isFree_19 (by decide) ?_
      refine z_iret0 C rfl rfl (by decide) (by decide) dX3_isFree_23 ?_
      exact ⟨by rw [if_pos (by omega)], rfl, rfl⟩

set_option maxRecDepth 100000 in
theorem hin_X3_cutOff_X3 : ∀ w ∈ u_ws RX3 TX3 11, w ∈ wsX3_cutOff := by decide +kernel
set_option maxHeartbeats 4000000 in
set_option maxRecDepth 100000 in
theorem c_X3_cutOff (l : Launch) (hlst : l.stackTraces = false) (G : zGt) (L : List Nat) (F : Nat → va_E) (m0 c0 c1 c2 c3 c4 c5 c6 : Nat) (n now sl thr : Nat) (g : Nat → FdT) (hmo : zMo G L F m0 c0 c1 c2 c3 c4 c5 c6 n now sl thr g) (k : Nat) (hk : k < n) : zM l yX3_cutOff wsX3_cutOff 3 67 0 0 G L F [.ref m0, .int (nI k)] (fun rv L1 F1 => rv = some (.int (nI (fTk (g k)))) ∧ L1 = L ∧ zMo G L F1 m0 c0 c1 c2 c3 c4 c5 c6 n now sl thr ((upF g k (fOff (g k)))) ∧ (∀ b, b ≠ c3 → b ≠ c5 → b ≠ c6 → F1 b = F b)) := by
  obtain ⟨⟨hLm, hLc0, hLc1, hLc2, hLc3, hLc4, hLc5, hLc6⟩, ⟨hFm, hFc0, hFc1, hFc2, hFc3, hFc4, hFc5, hFc6⟩, hNc, hGg, ⟨hn, hnow, hsl, hthr⟩⟩ := id hmo
  have hOk := hGg.1 k hk
  obtain ⟨u1, u2, u3, u4, u5, u6, u7, u8⟩ := id hOk
  refine z_of (cc := cX3_cutOff) (nL := 3) (ret := (some .int)) (own := RX3) hlst (by decide +kernel) rfl rfl (Nat.le_of_ble_eq_true rfl) ?_
  intro p e s m below meth c A hnm C
  refine z_lvs (lv' := [(0, .ref m0), (1, .int (nI k))]) rfl ?_
  refine z_aload_n C dX3_cutOff_0 rfl 0 rfl ?_
  refine z_iload_n C dX3_cutOff_1 rfl 1 rfl ?_
  refine z_callV (As := [.int (nI k)]) (st := []) (mc := 0) (ms := 0) C hLm hFm rfl (c_X3_takesOf l hlst G L F m0 c0 c1 c2 c3 c4 c5 c6 n now sl thr g hmo k (by omega)) (cwV 1 C.1.2.2.2.2 gX3_cutOff_X3_takesOf rfl rfl rfl (by decide +kernel) ⟨Nat.le_of_ble_eq_true rfl, Nat.le_of_ble_eq_true rfl⟩) rfl (Nat.le_of_ble_eq_true rfl) ⟨Nat.le_of_ble_eq_true rfl, Nat.le_of_ble_eq_true rfl⟩ dX3_cutOff_2 (z_p ?_)
  refine z_stk (st' := [.int (nI (fTk (g k)))]) rfl ?_
  refine z_istore_n (lv' := [(2, .int (nI (fTk (g k)))), (0, .ref m0), (1, .int (nI k))]) C dX3_cutOff_5 rfl (by decide) rfl ?_
  refine z_aload_n C dX3_cutOff_6 rfl 1 rfl ?_
  refine z_get (ref := "ShedwheelModel") (v := .ref c3) C hin_X3_cutOff_X3 hLm hFm rfl 3 (by decide) (by decide +kernel) (fun _ h9 => h9) rfl dX3_cutOff_7 ?_
  refine z_iload_n C dX3_cutOff_10 rfl 2 rfl ?_
  refine z_iconst C (nI 1) dX3_cutOff_11 (by decide) ?_
  refine z_iast C hLc3 hFc3 (by omega) (by omega) dX3_cutOff_12 (fun F1_ h2_ k3_ => ?_)
  have h4_ : F1_ m0 = .inr (4, [.ref c0, .ref c1, .ref c2, .ref c3, .ref c4, .ref c5, .ref c6, .int (nI n), .int (nI sl), .int (nI now), .int (nI thr)]) := (k3_ m0 (zne hFm hFc3 rfl)).trans hFm
  have h5_ : F1_ c0 = .inl (G.2.1, 12, .inl (fun i9 => nI (fMw (g i9)))) := (k3_ c0 hNc.1.2.2.1).trans hFc0
  have h6_ : F1_ c1 = .inl (G.2.1, 12, .inl (fun i9 => nI (fCr (g i9)))) := (k3_ c1 hNc.2.1.2.1).trans hFc1
  have h7_ : F1_ c2 = .inl (G.2.1, 12, .inl (fun i9 => nI (fSg (g i9)))) := (k3_ c2 hNc.2.2.1.1).trans hFc2
  have h8_ : F1_ c4 = .inl (G.2.1, 12, .inl (fun i9 => nI (fHo (g i9)))) := (k3_ c4 (Ne.symm hNc.2.2.2.1.1)).trans hFc4
  have h9_ : F1_ c5 = .inl (G.2.1, 12, .inl (fun i9 => nI (fTh (g i9)))) := (k3_ c5 (Ne.symm hNc.2.2.2.1.2.1)).trans hFc5
  have h10_ : F1_ c6 = .inl (G.2.1, 12, .inl (fun i9 => nI (fCo (g i9)))) := (k3_ c6 (Ne.symm hNc.2.2.2.1.2.2)).trans hFc6
  have kc11_ : ∀ b, b ≠ c3 → F1_ b = F b := fun b q0 => k3_ b q0
  refine z_aload_n C dX3_cutOff_13 rfl 1 rfl ?_
  refine z_get (ref := "ShedwheelModel") (v := .ref c5) C hin_X3_cutOff_X3 hLm h4_ rfl 5 (by decide) (by decide +kernel) (fun _ h9 => h9) rfl dX3_cutOff_14 ?_
  refine z_iload_n C dX3_cutOff_17 rfl 2 rfl ?_
  refine z_iconst C (nI 0) dX3_cutOff_18 (by decide) ?_
  refine z_iast C hLc5 h9_ (by omega) (by omega) dX3_cutOff_19 (fun F12_ h13_ k14_ => ?_)
  have h15_ : F12_ m0 = .inr (4, [.ref c0, .ref c1, .ref c2, .ref c3, .ref c4, .ref c5, .ref c6, .int (nI n), .int (nI sl), .int (nI now), .int (nI thr)]) := (k14_ m0 (zne h4_ h9_ rfl)).trans h4_
  have h16_ : F12_ c0 = .inl (G.2.1, 12, .inl (fun i9 => nI (fMw (g i9)))) := (k14_ c0 hNc.1.2.2.2.2.1).trans h5_
  have h17_ : F12_ c1 = .inl (G.2.1, 12, .inl (fun i9 => nI (fCr (g i9)))) := (k14_ c1 hNc.2.1.2.2.2.1).trans h6_
  have h18_ : F12_ c2 = .inl (G.2.1, 12, .inl (fun i9 => nI (fSg (g i9)))) := (k14_ c2 hNc.2.2.1.2.2.1).trans h7_
  have h19_ : F12_ c3 = .inl (G.2.1, 12, .inl (upd (fun i9 => nI (fOf (g i9))) k (nI 1))) := (k14_ c3 hNc.2.2.2.1.2.1).trans h2_
  have h20_ : F12_ c4 = .inl (G.2.1, 12, .inl (fun i9 => nI (fHo (g i9)))) := (k14_ c4 hNc.2.2.2.2.1.1).trans h8_
  have h21_ : F12_ c6 = .inl (G.2.1, 12, .inl (fun i9 => nI (fCo (g i9)))) := (k14_ c6 (Ne.symm hNc.2.2.2.2.2)).trans h10_
  have kc22_ : ∀ b, b ≠ c3 → b ≠ c5 → F12_ b = F b := fun b q0 q1 => (k14_ b q1).trans (kc11_ b q0)
  refine z_aload_n C dX3_cutOff_20 rfl 1 rfl ?_
  refine z_get (ref := "ShedwheelModel") (v := .ref c6) C hin_X3_cutOff_X3 hLm h15_ rfl 6 (by decide) (by decide +kernel) (fun _ h9 => h9) rfl dX3_cutOff_21 ?_
  refine z_iload_n C dX3_cutOff_24 rfl 2 rfl ?_
  refine z_iconst C (nI 0) dX3_cutOff_25 (by decide) ?_
  refine z_iast C hLc6 h21_ (by omega) (by omega) dX3_cutOff_26 (fun F23_ h24_ k25_ => ?_)
  have h26_ : F23_ m0 = .inr (4, [.ref c0, .ref c1, .ref c2, .ref c3, .ref c4, .ref c5, .ref c6, .int (nI n), .int (nI sl), .int (nI now), .int (nI thr)]) := (k25_ m0 (zne h15_ h21_ rfl)).trans h15_
  have h27_ : F23_ c0 = .inl (G.2.1, 12, .inl (fun i9 => nI (fMw (g i9)))) := (k25_ c0 hNc.1.2.2.2.2.2).trans h16_
  have h28_ : F23_ c1 = .inl (G.2.1, 12, .inl (fun i9 => nI (fCr (g i9)))) := (k25_ c1 hNc.2.1.2.2.2.2).trans h17_
  have h29_ : F23_ c2 = .inl (G.2.1, 12, .inl (fun i9 => nI (fSg (g i9)))) := (k25_ c2 hNc.2.2.1.2.2.2).trans h18_
  have h30_ : F23_ c3 = .inl (G.2.1, 12, .inl (upd (fun i9 => nI (fOf (g i9))) k (nI 1))) := (k25_ c3 hNc.2.2.2.1.2.2).trans h19_
  have h31_ : F23_ c4 = .inl (G.2.1, 12, .inl (fun i9 => nI (fHo (g i9)))) := (k25_ c4 hNc.2.2.2.2.1.2).trans h20_
  have h32_ : F23_ c5 = .inl (G.2.1, 12, .inl (upd (fun i9 => nI (fTh (g i9))) k (nI 0))) := (k25_ c5 hNc.2.2.2.2.2).trans h13_
  have kc33_ : ∀ b, b ≠ c3 → b ≠ c5 → b ≠ c6 → F23_ b = F b := fun b q0 q1 q2 => (k25_ b q2).trans (kc22_ b q0 q1)
  refine z_iload_n C dX3_cutOff_27 rfl 0 rfl ?_
  refine z_iret0 C rfl rfl (by decide) (by decide) dX3_cutOff_28 ?_
  have hmo2 : zMo G L F23_ m0 c0 c1 c2 c3 c4 c5 c6 n now sl thr (upF g k (fOff (g k))) := ⟨⟨hLm, hLc0, hLc1, hLc2, hLc3, hLc4, hLc5, hLc6⟩, ⟨h26_, (h27_).trans (by rw [show (fun i9 => nI (fMw (g i9))) = (fun i9 => nI (fMw (upF g k (fOff (g k)) i9))) from fl_same (g := g) (k := k) (r := (fOff (g k))) fMw rfl]), (h28_).trans (by rw [show (fun i9 => nI (fCr (g i9))) = (fun i9 => nI (fCr (upF g k (fOff (g k)) i9))) from fl_same (g := g) (k := k) (r := (fOff (g k))) fCr rfl]), (h29_).trans (by rw [show (fun i9 => nI (fSg (g i9))) = (fun i9 => nI (fSg (upF g k (fOff (g k)) i9))) from fl_same (g := g) (k := k) (r := (fOff (g k))) fSg rfl]), (h30_).trans (by rw [show (upd (fun i9 => nI (fOf (g i9))) k (nI 1)) = (fun i9 => nI (fOf (upF g k (fOff (g k)) i9))) from fl_upd (g := g) (k := k) (r := (fOff (g k))) fOf]), (h31_).trans (by rw [show (fun i9 => nI (fHo (g i9))) = (fun i9 => nI (fHo (upF g k (fOff (g k)) i9))) from fl_same (g := g) (k := k) (r := (fOff (g k))) fHo rfl]), (h32_).trans (by rw [show (upd (fun i9 => nI (fTh (g i9))) k (nI 0)) = (fun i9 => nI (fTh (upF g k (fOff (g k)) i9))) from fl_upd (g := g) (k := k) (r := (fOff (g k))) fTh]), (h24_).trans (by rw [show (upd (fun i9 => nI (fCo (g i9))) k (nI 0)) = (fun i9 => nI (fCo (upF g k (fOff (g k)) i9))) from fl_upd (g := g) (k := k) (r := (fOff (g k))) fCo])⟩, hNc, hGg.one hk (fOff_ok hOk), ⟨hn, hnow, hsl, hthr⟩⟩
  exact ⟨rfl, rfl, hmo2, fun b q4 q6 q7 => kc33_ b q4 q6 q7⟩

set_option maxRecDepth 100000 in
theorem hin_X3_bringBack_X3 : ∀ w ∈ u_ws RX3 TX3 11, w ∈ wsX3_bringBack := by decide +kernel
set_option maxHeartbeats 4000000 in
set_option maxRecDepth 100000 in
theorem c_X3_bringBack (l : Launch) (hlst : l.stackTraces = false) (G : zGt) (L : List Nat) (F : Nat → va_E) (m0 c0 c1 c2 c3 c4 c5 c6 : Nat) (n now sl thr : Nat) (g : Nat → FdT) (hmo : zMo G L F m0 c0 c1 c2 c3 c4 c5 c6 n now sl thr g) (k : Nat) (hk : k < n) : zM l yX3_bringBack wsX3_bringBack 2 45 0 0 G L F [.ref m0, .int (nI k)] (fun rv L1 F1 => rv = none ∧ L1 = L ∧ zMo G L F1 m0 c0 c1 c2 c3 c4 c5 c6 n now sl thr ((upF g k (fBb (g k)))) ∧ (∀ b, b ≠ c3 → b ≠ c5 → b ≠ c6 → F1 b = F b)) := by
  obtain ⟨⟨hLm, hLc0, hLc1, hLc2, hLc3, hLc4, hLc5, hLc6⟩, ⟨hFm, hFc0, hFc1, hFc2, hFc3, hFc4, hFc5, hFc6⟩, hNc, hGg, ⟨hn, hnow, hsl, hthr⟩⟩ := id hmo
  have hOk := hGg.1 k hk
  obtain ⟨u1, u2, u3, u4, u5, u6, u7, u8⟩ := id hOk
  refine z_of (cc := cX3_bringBack) (nL := 2) (ret := none) (own := RX3) hlst (by decide +kernel) rfl rfl (Nat.le_of_ble_eq_true rfl) ?_
  intro p e s m below meth c A hnm C
  refine z_lvs (lv' := [(0, .ref m0), (1, .int (nI k))]) rfl ?_
  refine z_aload_n C dX3_bringBack_0 rfl 0 rfl ?_
  refine z_get (ref := "ShedwheelModel") (v := .ref c6) C hin_X3_bringBack_X3 hLm hFm rfl 6 (by decide) (by decide +kernel) (fun _ h9 => h9) rfl dX3_bringBack_1 ?_
  refine z_iload_n C dX3_bringBack_4 rfl 1 rfl ?_
  refine z_aload_n C dX3_bringBack_5 rfl 0 rfl ?_
  refine z_iload_n C dX3_bringBack_6 rfl 1 rfl ?_
  refine z_callV (As := [.int (nI k)]) (st := [.int (nI k), .ref c6]) (mc := 0) (ms := 0) C hLm hFm rfl (c_X3_coldThen l hlst G L F m0 c0 c1 c2 c3 c4 c5 c6 n now sl thr g hmo k (by omega)) (cwV 1 C.1.2.2.2.2 gX3_bringBack_X3_coldThen rfl rfl rfl (by decide +kernel) ⟨Nat.le_of_ble_eq_true rfl, Nat.le_of_ble_eq_true rfl⟩) rfl (Nat.le_of_ble_eq_true rfl) ⟨Nat.le_of_ble_eq_true rfl, Nat.le_of_ble_eq_true rfl⟩ dX3_bringBack_7 (z_p ?_)
  refine z_stk (st' := [.int (nI (crV (fTh (g k)))), .int (nI k), .ref c6]) rfl ?_
  refine z_iast C hLc6 hFc6 (by omega) (by omega) dX3_bringBack_10 (fun F1_ h2_ k3_ => ?_)
  have h4_ : F1_ m0 = .inr (4, [.ref c0, .ref c1, .ref c2, .ref c3, .ref c4, .ref c5, .ref c6, .int (nI n), .int (nI sl), .int (nI now), .int (nI thr)]) := (k3_ m0 (zne hFm hFc6 rfl)).trans hFm
  have h5_ : F1_ c0 = .inl (G.2.1, 12, .inl (fun i9 => nI (fMw (g i9)))) := (k3_ c0 hNc.1.2.2.2.2.2).trans hFc0
  have h6_ : F1_ c1 = .inl (G.2.1, 12, .inl (fun i9 => nI (fCr (g i9)))) := (k3_ c1 hNc.2.1.2.2.2.2).trans hFc1
  have h7_ : F1_ c2 = .inl (G.2.1, 12, .inl (fun i9 => nI (fSg (g i9)))) := (k3_ c2 hNc.2.2.1.2.2.2).trans hFc2
  have h8_ : F1_ c3 = .inl (G.2.1, 12, .inl (fun i9 => nI (fOf (g i9)))) := (k3_ c3 hNc.2.2.2.1.2.2).trans hFc3
  have h9_ : F1_ c4 = .inl (G.2.1, 12, .inl (fun i9 => nI (fHo (g i9)))) := (k3_ c4 hNc.2.2.2.2.1.2).trans hFc4
  have h10_ : F1_ c5 = .inl (G.2.1, 12, .inl (fun i9 => nI (fTh (g i9)))) := (k3_ c5 hNc.2.2.2.2.2).trans hFc5
  have kc11_ : ∀ b, b ≠ c6 → F1_ b = F b := fun b q0 => k3_ b q0
  refine z_aload_n C dX3_bringBack_11 rfl 0 rfl ?_
  refine z_get (ref := "ShedwheelModel") (v := .ref c3) C hin_X3_bringBack_X3 hLm h4_ rfl 3 (by decide) (by decide +kernel) (fun _ h9 => h9) rfl dX3_bringBack_12 ?_
  refine z_iload_n C dX3_bringBack_15 rfl 1 rfl ?_
  refine z_iconst C (nI 0) dX3_bringBack_16 (by decide) ?_
  refine z_iast C hLc3 h8_ (by omega) (by omega) dX3_bringBack_17 (fun F12_ h13_ k14_ => ?_)
  have h15_ : F12_ m0 = .inr (4, [.ref c0, .ref c1, .ref c2, .ref c3, .ref c4, .ref c5, .ref c6, .int (nI n), .int (nI sl), .int (nI now), .int (nI thr)]) := (k14_ m0 (zne h4_ h8_ rfl)).trans h4_
  have h16_ : F12_ c0 = .inl (G.2.1, 12, .inl (fun i9 => nI (fMw (g i9)))) := (k14_ c0 hNc.1.2.2.1).trans h5_
  have h17_ : F12_ c1 = .inl (G.2.1, 12, .inl (fun i9 => nI (fCr (g i9)))) := (k14_ c1 hNc.2.1.2.1).trans h6_
  have h18_ : F12_ c2 = .inl (G.2.1, 12, .inl (fun i9 => nI (fSg (g i9)))) := (k14_ c2 hNc.2.2.1.1).trans h7_
  have h19_ : F12_ c4 = .inl (G.2.1, 12, .inl (fun i9 => nI (fHo (g i9)))) := (k14_ c4 (Ne.symm hNc.2.2.2.1.1)).trans h9_
  have h20_ : F12_ c5 = .inl (G.2.1, 12, .inl (fun i9 => nI (fTh (g i9)))) := (k14_ c5 (Ne.symm hNc.2.2.2.1.2.1)).trans h10_
  have h21_ : F12_ c6 = .inl (G.2.1, 12, .inl (upd (fun i9 => nI (fCo (g i9))) k (nI (crV (fTh (g k)))))) := (k14_ c6 (Ne.symm hNc.2.2.2.1.2.2)).trans h2_
  have kc22_ : ∀ b, b ≠ c6 → b ≠ c3 → F12_ b = F b := fun b q0 q1 => (k14_ b q1).trans (kc11_ b q0)
  refine z_aload_n C dX3_bringBack_18 rfl 0 rfl ?_
  refine z_get (ref := "ShedwheelModel") (v := .ref c5) C hin_X3_bringBack_X3 hLm h15_ rfl 5 (by decide) (by decide +kernel) (fun _ h9 => h9) rfl dX3_bringBack_19 ?_
  refine z_iload_n C dX3_bringBack_22 rfl 1 rfl ?_
  refine z_iconst C (nI 0) dX3_bringBack_23 (by decide) ?_
  refine z_iast C hLc5 h20_ (by omega) (by omega) dX3_bringBack_24 (fun F23_ h24_ k25_ => ?_)
  have h26_ : F23_ m0 = .inr (4, [.ref c0, .ref c1, .ref c2, .ref c3, .ref c4, .ref c5, .ref c6, .int (nI n), .int (nI sl), .int (nI now), .int (nI thr)]) := (k25_ m0 (zne h15_ h20_ rfl)).trans h15_
  have h27_ : F23_ c0 = .inl (G.2.1, 12, .inl (fun i9 => nI (fMw (g i9)))) := (k25_ c0 hNc.1.2.2.2.2.1).trans h16_
  have h28_ : F23_ c1 = .inl (G.2.1, 12, .inl (fun i9 => nI (fCr (g i9)))) := (k25_ c1 hNc.2.1.2.2.2.1).trans h17_
  have h29_ : F23_ c2 = .inl (G.2.1, 12, .inl (fun i9 => nI (fSg (g i9)))) := (k25_ c2 hNc.2.2.1.2.2.1).trans h18_
  have h30_ : F23_ c3 = .inl (G.2.1, 12, .inl (upd (fun i9 => nI (fOf (g i9))) k (nI 0))) := (k25_ c3 hNc.2.2.2.1.2.1).trans h13_
  have h31_ : F23_ c4 = .inl (G.2.1, 12, .inl (fun i9 => nI (fHo (g i9)))) := (k25_ c4 hNc.2.2.2.2.1.1).trans h19_
  have h32_ : F23_ c6 = .inl (G.2.1, 12, .inl (upd (fun i9 => nI (fCo (g i9))) k (nI (crV (fTh (g k)))))) := (k25_ c6 (Ne.symm hNc.2.2.2.2.2)).trans h21_
  have kc33_ : ∀ b, b ≠ c6 → b ≠ c3 → b ≠ c5 → F23_ b = F b := fun b q0 q1 q2 => (k25_ b q2).trans (kc22_ b q0 q1)
  refine z_vret0 C rfl (by decide) (by decide) dX3_bringBack_25 ?_
  have hmo2 : zMo G L F23_ m0 c0 c1 c2 c3 c4 c5 c6 n now sl thr (upF g k (fBb (g k))) := ⟨⟨hLm, hLc0, hLc1, hLc2, hLc3, hLc4, hLc5, hLc6⟩, ⟨h26_, (h27_).trans (by rw [show (fun i9 => nI (fMw (g i9))) = (fun i9 => nI (fMw (upF g k (fBb (g k)) i9))) from fl_same (g := g) (k := k) (r := (fBb (g k))) fMw rfl]), (h28_).trans (by rw [show (fun i9 => nI (fCr (g i9))) = (fun i9 => nI (fCr (upF g k (fBb (g k)) i9))) from fl_same (g := g) (k := k) (r := (fBb (g k))) fCr rfl]), (h29_).trans (by rw [show (fun i9 => nI (fSg (g i9))) = (fun i9 => nI (fSg (upF g k (fBb (g k)) i9))) from fl_same (g := g) (k := k) (r := (fBb (g k))) fSg rfl]), (h30_).trans (by rw [show (upd (fun i9 => nI (fOf (g i9))) k (nI 0)) = (fun i9 => nI (fOf (upF g k (fBb (g k)) i9))) from fl_upd (g := g) (k := k) (r := (fBb (g k))) fOf]), (h31_).trans (by rw [show (fun i9 => nI (fHo (g i9))) = (fun i9 => nI (fHo (upF g k (fBb (g k)) i9))) from fl_same (g := g) (k := k) (r := (fBb (g k))) fHo rfl]), (h24_).trans (by rw [show (upd (fun i9 => nI (fTh (g i9))) k (nI 0)) = (fun i9 => nI (fTh (upF g k (fBb (g k)) i9))) from fl_upd (g := g) (k := k) (r := (fBb (g k))) fTh]), (h32_).trans (by rw [show (upd (fun i9 => nI (fCo (g i9))) k (nI (crV (fTh (g k))))) = (fun i9 => nI (fCo (upF g k (fBb (g k)) i9))) from fl_upd (g := g) (k := k) (r := (fBb (g k))) fCo])⟩, hNc, hGg.one hk (fBb_ok hOk), ⟨hn, hnow, hsl, hthr⟩⟩
  exact ⟨rfl, rfl, hmo2, fun b q4 q6 q7 => kc33_ b q7 q4 q6⟩
