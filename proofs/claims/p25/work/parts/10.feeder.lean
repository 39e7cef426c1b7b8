set_option maxRecDepth 100000 in
theorem hin_X0_withCold_X0 : ∀ w ∈ u_ws RX0 TX0 7, w ∈ wsX0_withCold := by decide +kernel
set_option maxHeartbeats 4000000 in
set_option maxRecDepth 100000 in
theorem c_X0_withCold (l : Launch) (hlst : l.stackTraces = false) (G : zGt) (L : List Nat) (F : Nat → va_E) (h0 : Nat) (sg mw cr of ho th co : Nat) (hL0 : h0 ∈ L) (hF0 : F h0 = .inr (1, [.int (nI sg), .int (nI mw), .int (nI cr), .int (nI of), .int (nI ho), .int (nI th), .int (nI co)])) (pt : Nat) (hmw : mw ≤ 999) (hpt : pt ≤ 100) : zM l yX0_withCold wsX0_withCold 1 24 0 0 G L F [.ref h0, .int (nI pt)] (fun rv L1 F1 => rv = some (.int (nI (mw * (100 + pt) / 100))) ∧ L1 = L ∧ F1 = F) := by
  have hb9 : mw * (100 + pt) ≤ 999 * 200 := Nat.mul_le_mul hmw (by omega)
  refine z_of (cc := cX0_withCold) (nL := 2) (ret := (some .int)) (own := RX0) hlst (by decide +kernel) rfl rfl (Nat.le_of_ble_eq_true rfl) ?_
  intro p e s m below meth c A hnm C
  refine z_lvs (lv' := [(0, .ref h0), (1, .int (nI pt))]) rfl ?_
  refine z_aload_n C dX0_withCold_0 rfl 0 rfl ?_
  refine z_get (ref := "Shedwheel$Feeder") (v := .int (nI mw)) C hin_X0_withCold_X0 hL0 hF0 rfl 1 (by decide) (by decide +kernel) (fun _ h9 => h9) rfl dX0_withCold_1 ?_
  refine z_bipush C (nI 100) dX0_withCold_4 (by decide) ?_
  refine z_iload_n C dX0_withCold_6 rfl 1 rfl ?_
  refine z_iadd C (nI (100 + pt)) dX0_withCold_7 (nI_add 100 pt) ?_
  refine z_imul C (nI (mw * (100 + pt))) dX0_withCold_8 (pk_mul mw (100 + pt)) ?_
  refine z_bipush C (nI 100) dX0_withCold_9 (by decide) ?_
  refine z_idiv C (nI ((mw * (100 + pt)) / 100)) dX0_withCold_11 (by decide) (pk_div (a := mw * (100 + pt)) (d := 100) (by omega) (by decide) (by decide)) ?_
  refine z_iret0 C rfl rfl (by decide) (by decide) dX0_withCold_12 ?_
  exact ⟨rfl, rfl, rfl⟩

set_option maxRecDepth 100000 in
theorem hin_X0_mayBeCut_X0 : ∀ w ∈ u_ws RX0 TX0 7, w ∈ wsX0_mayBeCut := by decide +kernel
set_option maxHeartbeats 4000000 in
set_option maxRecDepth 100000 in
theorem c_X0_mayBeCut (l : Launch) (hlst : l.stackTraces = false) (G : zGt) (L : List Nat) (F : Nat → va_E) (h0 : Nat) (sg mw cr of ho th co : Nat) (hL0 : h0 ∈ L) (hF0 : F h0 = .inr (1, [.int (nI sg), .int (nI mw), .int (nI cr), .int (nI of), .int (nI ho), .int (nI th), .int (nI co)])) (hcr : cr ≤ 1) (hof : of ≤ 1) : zM l yX0_mayBeCut wsX0_mayBeCut 1 24 0 0 G L F [.ref h0] (fun rv L1 F1 => rv = some (.int (nI (if of = 0 ∧ cr = 0 then 1 else 0))) ∧ L1 = L ∧ F1 = F) := by
  refine z_of (cc := cX0_mayBeCut) (nL := 1) (ret := (some .boolean)) (own := RX0) hlst (by decide +kernel) rfl rfl (Nat.le_of_ble_eq_true rfl) ?_
  intro p e s m below meth c A hnm C
  refine z_lvs (lv' := [(0, .ref h0)]) rfl ?_
  refine z_aload_n C dX0_mayBeCut_0 rfl 0 rfl ?_
  refine z_get (ref := "Shedwheel$Feeder") (v := .int (nI of)) C hin_X0_mayBeCut_X0 hL0 hF0 rfl 3 (by decide) (by decide +kernel) (fun _ h9 => h9) rfl dX0_mayBeCut_1 ?_
  refine z_if_ne C 18 (((of : Nat) : Int) = (0 : Int)) (zi_eq (zi_N (n := of) (by omega)) zi_0) dX0_mayBeCut_4 (by decide) (fun c1_ => ?_) (fun c1_ => ?_)
  · -- 4 taken
    refine z_iconst C (nI 0) dX0_mayBeCut_18 (by decide) ?_
    refine z_iret0 C rfl rfl (by decide) (by decide) dX0_mayBeCut_19 ?_
    exact ⟨by rw [if_neg (by omega)], rfl, rfl⟩
  · -- 4 not taken
    refine z_aload_n C dX0_mayBeCut_7 rfl 0 rfl ?_
    refine z_get (ref := "Shedwheel$Feeder") (v := .int (nI cr)) C hin_X0_mayBeCut_X0 hL0 hF0 rfl 2 (by decide) (by decide +kernel) (fun _ h9 => h9) rfl dX0_mayBeCut_8 ?_
    refine z_if_ne C 18 (((cr : Nat) : Int) = (0 : Int)) (zi_eq (zi_N (n := cr) (by omega)) zi_0) dX0_mayBeCut_11 (by decide) (fun c2_ => ?_) (fun c2_ => ?_)
    · -- 11 taken
      refine z_iconst C (nI 0) dX0_mayBeCut_18 (by decide) ?_
      refine z_iret0 C rfl rfl (by decide) (by decide) dX0_mayBeCut_19 ?_
      exact ⟨by rw [if_neg (by omega)], rfl, rfl⟩
    · -- 11 not taken
      refine z_iconst C (nI 1) dX0_mayBeCut_14 (by decide) ?_
      refine z_goto C 19 dX0_mayBeCut_15 (by decide) ?_
      refine z_iret0 C rfl rfl (by decide) (by decide) dX0_mayBeCut_19 ?_
      exact ⟨by rw [if_pos (by omega)], rfl, rfl⟩

set_option maxRecDepth 100000 in
theorem hin_X0_mayReturn_X0 : ∀ w ∈ u_ws RX0 TX0 7, w ∈ wsX0_mayReturn := by decide +kernel
set_option maxHeartbeats 4000000 in
set_option maxRecDepth 100000 in
theorem c_X0_mayReturn (l : Launch) (hlst : l.stackTraces = false) (G : zGt) (L : List Nat) (F : Nat → va_E) (h0 : Nat) (sg mw cr of ho th co : Nat) (hL0 : h0 ∈ L) (hF0 : F h0 = .inr (1, [.int (nI sg), .int (nI mw), .int (nI cr), .int (nI of), .int (nI ho), .int (nI th), .int (nI co)])) (hcr : cr ≤ 1) (hof : of ≤ 1) : zM l yX0_mayReturn wsX0_mayReturn 1 24 0 0 G L F [.ref h0] (fun rv L1 F1 => rv = some (.int (nI (if of = 1 ∧ cr = 0 then 1 else 0))) ∧ L1 = L ∧ F1 = F) := by
  refine z_of (cc := cX0_mayReturn) (nL := 1) (ret := (some .boolean)) (own := RX0) hlst (by decide +kernel) rfl rfl (Nat.le_of_ble_eq_true rfl) ?_
  intro p e s m below meth c A hnm C
  refine z_lvs (lv' := [(0, .ref h0)]) rfl ?_
  refine z_aload_n C dX0_mayReturn_0 rfl 0 rfl ?_
  refine z_get (ref := "Shedwheel$Feeder") (v := .int (nI of)) C hin_X0_mayReturn_X0 hL0 hF0 rfl 3 (by decide) (by decide +kernel) (fun _ h9 => h9) rfl dX0_mayReturn_1 ?_
  refine z_if_eq C 18 (((of : Nat) : Int) = (0 : Int)) (zi_eq (zi_N (n := of) (by omega)) zi_0) dX0_mayReturn_4 (by decide) (fun c1_ => ?_) (fun c1_ => ?_)
  · -- 4 taken
    refine z_iconst C (nI 0) dX0_mayReturn_18 (by decide) ?_
    refine z_iret0 C rfl rfl (by decide) (by decide) dX0_mayReturn_19 ?_
    exact ⟨by rw [if_neg (by omega)], rfl, rfl⟩
  · -- 4 not taken
    refine z_aload_n C dX0_mayReturn_7 rfl 0 rfl ?_
    refine z_get (ref := "Shedwheel$Feeder") (v := .int (nI cr)) C hin_X0_mayReturn_X0 hL0 hF0 rfl 2 (by decide) (by decide +kernel) (fun _ h9 => h9) rfl dX0_mayReturn_8 ?_
    refine z_if_ne C 18 (((cr : Nat) : Int) = (0 : Int)) (zi_eq (zi_N (n := cr) (by omega)) zi_0) dX0_mayReturn_11 (by decide) (fun c2_ => ?_) (fun c2_ => ?_)
    · -- 11 taken
      refine z_iconst C (nI 0) dX0_mayReturn_18 (by decide) ?_
      refine z_iret0 C rfl rfl (by decide) (by decide) dX0_mayReturn_19 ?_
      exact ⟨by rw [if_neg (by omega)], rfl, rfl⟩
    · -- 11 not taken
      refine z_iconst C (nI 1) dX0_mayReturn_14 (by decide) ?_
      refine z_goto C 19 dX0_mayReturn_15 (by decide) ?_
      refine z_iret0 C rfl rfl (by decide) (by decide) dX0_mayReturn_19 ?_
      exact ⟨by rw [if_pos (by omega)], rfl, rfl⟩

set_option maxRecDepth 100000 in
theorem hin_X0_taken_X0 : ∀ w ∈ u_ws RX0 TX0 7, w ∈ wsX0_taken := by decide +kernel
set_option maxHeartbeats 4000000 in
set_option maxRecDepth 100000 in
theorem c_X0_taken (l : Launch) (hlst : l.stackTraces = false) (G : zGt) (L : List Nat) (F : Nat → va_E) (h0 : Nat) (sg mw cr of ho th co : Nat) (hL0 : h0 ∈ L) (hF0 : F h0 = .inr (1, [.int (nI sg), .int (nI mw), .int (nI cr), .int (nI of), .int (nI ho), .int (nI th), .int (nI co)])) (hmw : mw ≤ 999) (hco : co ≤ 100) (hof : of ≤ 1) : zM l yX0_taken wsX0_taken 2 45 0 0 G L F [.ref h0] (fun rv L1 F1 => rv = some (.int (nI (tkV mw of co))) ∧ L1 = L ∧ F1 = F) := by
  refine z_of (cc := cX0_taken) (nL := 1) (ret := (some .int)) (own := RX0) hlst (by decide +kernel) rfl rfl (Nat.le_of_ble_eq_true rfl) ?_
  intro p e s m below meth c A hnm C
  refine z_lvs (lv' := [(0, .ref h0)]) rfl ?_
  refine z_aload_n C dX0_taken_0 rfl 0 rfl ?_
  refine z_get (ref := "Shedwheel$Feeder") (v := .int (nI of)) C hin_X0_taken_X0 hL0 hF0 rfl 3 (by decide) (by decide +kernel) (fun _ h9 => h9) rfl dX0_taken_1 ?_
  refine z_if_eq C 11 (((of : Nat) : Int) = (0 : Int)) (zi_eq (zi_N (n := of) (by omega)) zi_0) dX0_taken_4 (by decide) (fun c1_ => ?_) (fun c1_ => ?_)
  · -- 4 taken
    refine z_aload_n C dX0_taken_11 rfl 0 rfl ?_
    refine z_aload_n C dX0_taken_12 rfl 0 rfl ?_
    refine z_get (ref := "Shedwheel$Feeder") (v := .int (nI co)) C hin_X0_taken_X0 hL0 hF0 rfl 6 (by decide) (by decide +kernel) (fun _ h9 => h9) rfl dX0_taken_13 ?_
    refine z_callV (As := [.int (nI co)]) (st := []) (mc := 0) (ms := 0) C hL0 hF0 rfl (c_X0_withCold l hlst G L F h0 sg mw cr of ho th co hL0 hF0 co (by omega) (by omega)) (cwV 1 C.1.2.2.2.2 gX0_taken_X0_withCold rfl rfl rfl (by decide +kernel) ⟨Nat.le_of_ble_eq_true rfl, Nat.le_of_ble_eq_true rfl⟩) rfl (Nat.le_of_ble_eq_true rfl) ⟨Nat.le_of_ble_eq_true rfl, Nat.le_of_ble_eq_true rfl⟩ dX0_taken_16 (z_p ?_)
    refine z_stk (st' := [.int (nI (mw * (100 + co) / 100))]) rfl ?_
    refine z_iret0 C rfl rfl (by decide) (by decide) dX0_taken_19 ?_
    exact ⟨by rw [tkV, if_pos (by omega)], rfl, rfl⟩
  · -- 4 not taken
    refine z_iconst C (nI 0) dX0_taken_7 (by decide) ?_
    refine z_goto C 19 dX0_taken_8 (by decide) ?_
    refine z_iret0 C rfl rfl (by decide) (by decide) dX0_taken_19 ?_
    exact ⟨by rw [tkV, if_neg (by omega)], rfl, rfl⟩

set_option maxRecDepth 100000 in
theorem hin_X0_coldOnReturn_X0 : ∀ w ∈ u_ws RX0 TX0 7, w ∈ wsX0_coldOnReturn := by decide +kernel
set_option maxHeartbeats 4000000 in
set_option maxRecDepth 100000 in
theorem c_X0_coldOnReturn (l : Launch) (hlst : l.stackTraces = false) (G : zGt) (L : List Nat) (F : Nat → va_E) (h0 : Nat) (sg mw cr of ho th co : Nat) (hL0 : h0 ∈ L) (hF0 : F h0 = .inr (1, [.int (nI sg), .int (nI mw), .int (nI cr), .int (nI of), .int (nI ho), .int (nI th), .int (nI co)])) (hth : th ≤ 60000) : zM l yX0_coldOnReturn wsX0_coldOnReturn 1 24 0 0 G L F [.ref h0] (fun rv L1 F1 => rv = some (.int (nI (crV th))) ∧ L1 = L ∧ F1 = F) := by
  refine z_of (cc := cX0_coldOnReturn) (nL := 1) (ret := (some .int)) (own := RX0) hlst (by decide +kernel) rfl rfl (Nat.le_of_ble_eq_true rfl) ?_
  intro p e s m below meth c A hnm C
  refine z_lvs (lv' := [(0, .ref h0)]) rfl ?_
  refine z_bipush C (nI 100) dX0_coldOnReturn_0 (by decide) ?_
  refine z_bipush C (nI 10) dX0_coldOnReturn_2 (by decide) ?_
  refine z_aload_n C dX0_coldOnReturn_4 rfl 0 rfl ?_
  refine z_get (ref := "Shedwheel$Feeder") (v := .int (nI th)) C hin_X0_coldOnReturn_X0 hL0 hF0 rfl 5 (by decide) (by decide +kernel) (fun _ h9 => h9) rfl dX0_coldOnReturn_5 ?_
  refine z_imul C (nI (10 * th)) dX0_coldOnReturn_8 (pk_mul 10 th) ?_
  refine z_min C (nI (crV th)) (by decide +kernel) (by decide +kernel) (by decide +kernel) (by decide +kernel) (Nat.le_of_ble_eq_true rfl) (Nat.le_of_ble_eq_true rfl) (Nat.le_of_ble_eq_true rfl) (Nat.le_of_ble_eq_true rfl) dX0_coldOnReturn_9 (crV_min (by omega)) ?_
  refine z_iret0 C rfl rfl (by decide) (by decide) dX0_coldOnReturn_12 ?_
  exact ⟨rfl, rfl, rfl⟩

set_option maxRecDepth 100000 in
theorem hin_X0_takenIfRestored_X0 : ∀ w ∈ u_ws RX0 TX0 7, w ∈ wsX0_takenIfRestored := by decide +kernel
set_option maxHeartbeats 4000000 in
set_option maxRecDepth 100000 in
theorem c_X0_takenIfRestored (l : Launch) (hlst : l.stackTraces = false) (G : zGt) (L : List Nat) (F : Nat → va_E) (h0 : Nat) (sg mw cr of ho th co : Nat) (hL0 : h0 ∈ L) (hF0 : F h0 = .inr (1, [.int (nI sg), .int (nI mw), .int (nI cr), .int (nI of), .int (nI ho), .int (nI th), .int (nI co)])) (hmw : mw ≤ 999) (hco : co ≤ 100) (hof : of ≤ 1) (hth : th ≤ 60000) : zM l yX0_takenIfRestored wsX0_takenIfRestored 3 65 0 0 G L F [.ref h0] (fun rv L1 F1 => rv = some (.int (nI (rsV mw of th co))) ∧ L1 = L ∧ F1 = F) := by
  have hcv := crV_le th
  refine z_of (cc := cX0_takenIfRestored) (nL := 1) (ret := (some .int)) (own := RX0) hlst (by decide +kernel) rfl rfl (Nat.le_of_ble_eq_true rfl) ?_
  intro p e s m below meth c A hnm C
  refine z_lvs (lv' := [(0, .ref h0)]) rfl ?_
  refine z_aload_n C dX0_takenIfRestored_0 rfl 0 rfl ?_
  refine z_get (ref := "Shedwheel$Feeder") (v := .int (nI of)) C hin_X0_takenIfRestored_X0 hL0 hF0 rfl 3 (by decide) (by decide +kernel) (fun _ h9 => h9) rfl dX0_takenIfRestored_1 ?_
  refine z_if_eq C 18 (((of : Nat) : Int) = (0 : Int)) (zi_eq (zi_N (n := of) (by omega)) zi_0) dX0_takenIfRestored_4 (by decide) (fun c1_ => ?_) (fun c1_ => ?_)
  · -- 4 taken
    refine z_aload_n C dX0_takenIfRestored_18 rfl 0 rfl ?_
    refine z_callV (As := []) (st := []) (mc := 0) (ms := 0) C hL0 hF0 rfl (c_X0_taken l hlst G L F h0 sg mw cr of ho th co hL0 hF0 (by omega) (by omega) (by omega)) (cwV 0 C.1.2.2.2.2 gX0_takenIfRestored_X0_taken rfl rfl rfl (by decide +kernel) ⟨Nat.le_of_ble_eq_true rfl, Nat.le_of_ble_eq_true rfl⟩) rfl (Nat.le_of_ble_eq_true rfl) ⟨Nat.le_of_ble_eq_true rfl, Nat.le_of_ble_eq_true rfl⟩ dX0_takenIfRestored_19 (z_p ?_)
    refine z_stk (st' := [.int (nI (tkV mw of co))]) rfl ?_
    refine z_iret0 C rfl rfl (by decide) (by decide) dX0_takenIfRestored_22 ?_
    exact ⟨by rw [rsV, if_pos (by omega), tkV, if_pos (by omega)], rfl, rfl⟩
  · -- 4 not taken
    refine z_aload_n C dX0_takenIfRestored_7 rfl 0 rfl ?_
    refine z_aload_n C dX0_takenIfRestored_8 rfl 0 rfl ?_
    refine z_callV (As := []) (st := [.ref h0]) (mc := 0) (ms := 0) C hL0 hF0 rfl (c_X0_coldOnReturn l hlst G L F h0 sg mw cr of ho th co hL0 hF0 (by omega)) (cwV 0 C.1.2.2.2.2 gX0_takenIfRestored_X0_coldOnReturn rfl rfl rfl (by decide +kernel) ⟨Nat.le_of_ble_eq_true rfl, Nat.le_of_ble_eq_true rfl⟩) rfl (Nat.le_of_ble_eq_true rfl) ⟨Nat.le_of_ble_eq_true rfl, Nat.le_of_ble_eq_true rfl⟩ dX0_takenIfRestored_9 (z_p ?_)
    refine z_stk (st' := [.int (nI (crV th)), .ref h0]) rfl ?_
    refine z_callV (As := [.int (nI (crV th))]) (st := []) (mc := 0) (ms := 0) C hL0 hF0 rfl (c_X0_withCold l hlst G L F h0 sg mw cr of ho th co hL0 hF0 (crV th) (by omega) (by omega)) (cwV 1 C.1.2.2.2.2 gX0_takenIfRestored_X0_withCold rfl rfl rfl (by decide +kernel) ⟨Nat.le_of_ble_eq_true rfl, Nat.le_of_ble_eq_true rfl⟩) rfl (Nat.le_of_ble_eq_true rfl) ⟨Nat.le_of_ble_eq_true rfl, Nat.le_of_ble_eq_true rfl⟩ dX0_takenIfRestored_12 (z_p ?_)
    refine z_stk (st' := [.int (nI (mw * (100 + (crV th)) / 100))]) rfl ?_
    refine z_goto C 22 dX0_takenIfRestored_15 (by decide) ?_
    refine z_iret0 C rfl rfl (by decide) (by decide) dX0_takenIfRestored_22 ?_
    exact ⟨by rw [rsV, if_neg (by omega)], rfl, rfl⟩

set_option maxRecDepth 100000 in
theorem hin_X0_switchOff_X0 : ∀ w ∈ u_ws RX0 TX0 7, w ∈ wsX0_switchOff := by decide +kernel
set_option maxHeartbeats 4000000 in
set_option maxRecDepth 100000 in
theorem c_X0_switchOff (l : Launch) (hlst : l.stackTraces = false) (G : zGt) (L : List Nat) (F : Nat → va_E) (h0 : Nat) (sg mw cr of ho th co : Nat) (hL0 : h0 ∈ L) (hF0 : F h0 = .inr (1, [.int (nI sg), .int (nI mw), .int (nI cr), .int (nI of), .int (nI ho), .int (nI th), .int (nI co)])) (hmw : mw ≤ 999) (hco : co ≤ 100) (hof : of ≤ 1) : zM l yX0_switchOff wsX0_switchOff 3 65 0 0 G L F [.ref h0] (fun rv L1 F1 => rv = some (.int (nI (tkV mw of co))) ∧ L1 = L ∧ F1 h0 = .inr (1, [.int (nI sg), .int (nI mw), .int (nI cr), .int (nI 1), .int (nI ho), .int (nI 0), .int (nI 0)]) ∧ ∀ b, b ≠ h0 → F1 b = F b) := by
  refine z_of (cc := cX0_switchOff) (nL := 2) (ret := (some .int)) (own := RX0) hlst (by decide +kernel) rfl rfl (Nat.le_of_ble_eq_true rfl) ?_
  intro p e s m below meth c A hnm C
  refine z_lvs (lv' := [(0, .ref h0)]) rfl ?_
  refine z_aload_n C dX0_switchOff_0 rfl 0 rfl ?_
  refine z_callV (As := []) (st := []) (mc := 0) (ms := 0) C hL0 hF0 rfl (c_X0_taken l hlst G L F h0 sg mw cr of ho th co hL0 hF0 (by omega) (by omega) (by omega)) (cwV 0 C.1.2.2.2.2 gX0_switchOff_X0_taken rfl rfl rfl (by decide +kernel) ⟨Nat.le_of_ble_eq_true rfl, Nat.le_of_ble_eq_true rfl⟩) rfl (Nat.le_of_ble_eq_true rfl) ⟨Nat.le_of_ble_eq_true rfl, Nat.le_of_ble_eq_true rfl⟩ dX0_switchOff_1 (z_p ?_)
  refine z_stk (st' := [.int (nI (tkV mw of co))]) rfl ?_
  refine z_istore_n (lv' := [(1, .int (nI (tkV mw of co))), (0, .ref h0)]) C dX0_switchOff_4 rfl (by decide) rfl ?_
  refine z_aload_n C dX0_switchOff_5 rfl 1 rfl ?_
  refine z_iconst C (nI 1) dX0_switchOff_6 (by decide) ?_
  refine z_put (ref := "Shedwheel$Feeder") (v := .int (nI 1)) (fs' := [.int (nI sg), .int (nI mw), .int (nI cr), .int (nI 1), .int (nI ho), .int (nI th), .int (nI co)]) C hin_X0_switchOff_X0 tyX0 tyX0_ok nmX0 hL0 hF0 rfl 3 (by decide) (by decide +kernel) (fun _ h9 => h9) rfl rfl rfl (Nat.le_of_ble_eq_true rfl) rfl dX0_switchOff_7 (fun F1_ h2_ k3_ => ?_)
  have kc4_ : ∀ b, b ≠ h0 → F1_ b = F b := fun b q0 => k3_ b q0
  refine z_aload_n C dX0_switchOff_10 rfl 1 rfl ?_
  refine z_iconst C (nI 0) dX0_switchOff_11 (by decide) ?_
  refine z_put (ref := "Shedwheel$Feeder") (v := .int (nI 0)) (fs' := [.int (nI sg), .int (nI mw), .int (nI cr), .int (nI 1), .int (nI ho), .int (nI 0), .int (nI co)]) C hin_X0_switchOff_X0 tyX0 tyX0_ok nmX0 hL0 h2_ rfl 5 (by decide) (by decide +kernel) (fun _ h9 => h9) rfl rfl rfl (Nat.le_of_ble_eq_true rfl) rfl dX0_switchOff_12 (fun F5_ h6_ k7_ => ?_)
  have kc8_ : ∀ b, b ≠ h0 → F5_ b = F b := fun b q0 => (k7_ b q0).trans (kc4_ b q0)
  refine z_aload_n C dX0_switchOff_15 rfl 1 rfl ?_
  refine z_iconst C (nI 0) dX0_switchOff_16 (by decide) ?_
  refine z_put (ref := "Shedwheel$Feeder") (v := .int (nI 0)) (fs' := [.int (nI sg), .int (nI mw), .int (nI cr), .int (nI 1), .int (nI ho), .int (nI 0), .int (nI 0)]) C hin_X0_switchOff_X0 tyX0 tyX0_ok nmX0 hL0 h6_ rfl 6 (by decide) (by decide +kernel) (fun _ h9 => h9) rfl rfl rfl (Nat.le_of_ble_eq_true rfl) rfl dX0_switchOff_17 (fun F9_ h10_ k11_ => ?_)
  have kc12_ : ∀ b, b ≠ h0 → F9_ b = F b := fun b q0 => (k11_ b q0).trans (kc8_ b q0)
  refine z_iload_n C dX0_switchOff_20 rfl 0 rfl ?_
  refine z_iret0 C rfl rfl (by decide) (by decide) dX0_switchOff_21 ?_
  exact ⟨rfl, rfl, h10_, kc12_⟩

set_option maxRecDepth 100000 in
theorem hin_X0_switchOn_X0 : ∀ w ∈ u_ws RX0 TX0 7, w ∈ wsX0_switchOn := by decide +kernel
set_option maxHeartbeats 4000000 in
set_option maxRecDepth 100000 in
theorem c_X0_switchOn (l : Launch) (hlst : l.stackTraces = false) (G : zGt) (L : List Nat) (F : Nat → va_E) (h0 : Nat) (sg mw cr of ho th co : Nat) (hL0 : h0 ∈ L) (hF0 : F h0 = .inr (1, [.int (nI sg), .int (nI mw), .int (nI cr), .int (nI of), .int (nI ho), .int (nI th), .int (nI co)])) (hth : th ≤ 60000) : zM l yX0_switchOn wsX0_switchOn 2 44 0 0 G L F [.ref h0] (fun rv L1 F1 => rv = none ∧ L1 = L ∧ F1 h0 = .inr (1, [.int (nI sg), .int (nI mw), .int (nI cr), .int (nI 0), .int (nI ho), .int (nI th), .int (nI (crV th))]) ∧ ∀ b, b ≠ h0 → F1 b = F b) := by
  refine z_of (cc := cX0_switchOn) (nL := 1) (ret := none) (own := RX0) hlst (by decide +kernel) rfl rfl (Nat.le_of_ble_eq_true rfl) ?_
  intro p e s m below meth c A hnm C
  refine z_lvs (lv' := [(0, .ref h0)]) rfl ?_
  refine z_aload_n C dX0_switchOn_0 rfl 0 rfl ?_
  refine z_aload_n C dX0_switchOn_1 rfl 0 rfl ?_
  refine z_callV (As := []) (st := [.ref h0]) (mc := 0) (ms := 0) C hL0 hF0 rfl (c_X0_coldOnReturn l hlst G L F h0 sg mw cr of ho th co hL0 hF0 (by omega)) (cwV 0 C.1.2.2.2.2 gX0_switchOn_X0_coldOnReturn rfl rfl rfl (by decide +kernel) ⟨Nat.le_of_ble_eq_true rfl, Nat.le_of_ble_eq_true rfl⟩) rfl (Nat.le_of_ble_eq_true rfl) ⟨Nat.le_of_ble_eq_true rfl, Nat.le_of_ble_eq_true rfl⟩ dX0_switchOn_2 (z_p ?_)
  refine z_stk (st' := [.int (nI (crV th)), .ref h0]) rfl ?_
  refine z_put (ref := "Shedwheel$Feeder") (v := .int (nI (crV th))) (fs' := [.int (nI sg), .int (nI mw), .int (nI cr), .int (nI of), .int (nI ho), .int (nI th), .int (nI (crV th))]) C hin_X0_switchOn_X0 tyX0 tyX0_ok nmX0 hL0 hF0 rfl 6 (by decide) (by decide +kernel) (fun _ h9 => h9) rfl rfl rfl (Nat.le_of_ble_eq_true rfl) rfl dX0_switchOn_5 (fun F1_ h2_ k3_ => ?_)
  have kc4_ : ∀ b, b ≠ h0 → F1_ b = F b := fun b q0 => k3_ b q0
  refine z_aload_n C dX0_switchOn_8 rfl 0 rfl ?_
  refine z_iconst C (nI 0) dX0_switchOn_9 (by decide) ?_
  refine z_put (ref := "Shedwheel$Feeder") (v := .int (nI 0)) (fs' := [.int (nI sg), .int (nI mw), .int (nI cr), .int (nI 0), .int (nI ho), .int (nI th), .int (nI (crV th))]) C hin_X0_switchOn_X0 tyX0 tyX0_ok nmX0 hL0 h2_ rfl 3 (by decide) (by decide +kernel) (fun _ h9 => h9) rfl rfl rfl (Nat.le_of_ble_eq_true rfl) rfl dX0_switchOn_10 (fun F5_ h6_ k7_ => ?_)
  have kc8_ : ∀ b, b ≠ h0 → F5_ b = F b := fun b q0 => (k7_ b q0).trans (kc4_ b q0)
  refine z_vret0 C rfl (by decide) (by decide) dX0_switchOn_13 ?_
  exact ⟨rfl, rfl, h6_, kc8_⟩

set_option maxRecDepth 100000 in
theorem hin_X0_letPass_X0 : ∀ w ∈ u_ws RX0 TX0 7, w ∈ wsX0_letPass := by decide +kernel
set_option maxHeartbeats 4000000 in
set_option maxRecDepth 100000 in
theorem c_X0_letPass (l : Launch) (hlst : l.stackTraces = false) (G : zGt) (L : List Nat) (F : Nat → va_E) (h0 : Nat) (sg mw cr of ho th co : Nat) (hL0 : h0 ∈ L) (hF0 : F h0 = .inr (1, [.int (nI sg), .int (nI mw), .int (nI cr), .int (nI of), .int (nI ho), .int (nI th), .int (nI co)])) (ps : Nat) (hps : ps ≤ 100) (hco : co ≤ 100) (hof : of ≤ 1) : zM l yX0_letPass wsX0_letPass 1 24 0 0 G L F [.ref h0, .int (nI ps)] (fun rv L1 F1 => rv = none ∧ L1 = L ∧ (F1 h0 = .inr (1, [.int (nI sg), .int (nI mw), .int (nI cr), .int (nI of), .int (nI (if of = 0 then ho else ho + ps)), .int (nI (if of = 0 then th else th + ps)), .int (nI (if of = 0 then co - 20 * ps else co))])) ∧ ∀ b, b ≠ h0 → F1 b = F b) := by
  refine z_of (cc := cX0_letPass) (nL := 2) (ret := none) (own := RX0) hlst (by decide +kernel) rfl rfl (Nat.le_of_ble_eq_true rfl) ?_
  intro p e s m below meth c A hnm C
  refine z_lvs (lv' := [(0, .ref h0), (1, .int (nI ps))]) rfl ?_
  refine z_aload_n C dX0_letPass_0 rfl 0 rfl ?_
  refine z_get (ref := "Shedwheel$Feeder") (v := .int (nI of)) C hin_X0_letPass_X0 hL0 hF0 rfl 3 (by decide) (by decide +kernel) (fun _ h9 => h9) rfl dX0_letPass_1 ?_
  refine z_if_eq C 30 (((of : Nat) : Int) = (0 : Int)) (zi_eq (zi_N (n := of) (by omega)) zi_0) dX0_letPass_4 (by decide) (fun c1_ => ?_) (fun c1_ => ?_)
  · -- 4 taken
    refine z_aload_n C dX0_letPass_30 rfl 0 rfl ?_
    refine z_iconst C (nI 0) dX0_letPass_31 (by decide) ?_
    refine z_aload_n C dX0_letPass_32 rfl 0 rfl ?_
    refine z_get (ref := "Shedwheel$Feeder") (v := .int (nI co)) C hin_X0_letPass_X0 hL0 hF0 rfl 6 (by decide) (by decide +kernel) (fun _ h9 => h9) rfl dX0_letPass_33 ?_
    refine z_bipush C (nI 20) dX0_letPass_36 (by decide) ?_
    refine z_iload_n C dX0_letPass_38 rfl 1 rfl ?_
    refine z_imul C (nI (20 * ps)) dX0_letPass_39 (pk_mul 20 ps) ?_
    refine z_isub C (nI co - nI (20 * ps)) dX0_letPass_40 (rfl) ?_
    refine z_max C (nI (co - 20 * ps)) (by decide +kernel) (by decide +kernel) (by decide +kernel) (by decide +kernel) (Nat.le_of_ble_eq_true rfl) (Nat.le_of_ble_eq_true rfl) (Nat.le_of_ble_eq_true rfl) (Nat.le_of_ble_eq_true rfl) dX0_letPass_41 (mx_sub (by omega) (by omega)) ?_
    refine z_put (ref := "Shedwheel$Feeder") (v := .int (nI (co - 20 * ps))) (fs' := [.int (nI sg), .int (nI mw), .int (nI cr), .int (nI of), .int (nI ho), .int (nI th), .int (nI (co - 20 * ps))]) C hin_X0_letPass_X0 tyX0 tyX0_ok nmX0 hL0 hF0 rfl 6 (by decide) (by decide +kernel) (fun _ h9 => h9) rfl rfl rfl (Nat.le_of_ble_eq_true rfl) rfl dX0_letPass_44 (fun F2_ h3_ k4_ => ?_)
    have kc5_ : ∀ b, b ≠ h0 → F2_ b = F b := fun b q0 => k4_ b q0
    refine z_vret0 C rfl (by decide) (by decide) dX0_letPass_47 ?_
    exact ⟨rfl, rfl, by simp only [if_pos (show of = 0 by omega)]; exact h3_, kc5_⟩
  · -- 4 not taken
    refine z_aload_n C dX0_letPass_7 rfl 0 rfl ?_
    refine z_dup C dX0_letPass_8 rfl ?_
    refine z_get (ref := "Shedwheel$Feeder") (v := .int (nI ho)) C hin_X0_letPass_X0 hL0 hF0 rfl 4 (by decide) (by decide +kernel) (fun _ h9 => h9) rfl dX0_letPass_9 ?_
    refine z_iload_n C dX0_letPass_12 rfl 1 rfl ?_
    refine z_iadd C (nI (ho + ps)) dX0_letPass_13 (nI_add ho ps) ?_
    refine z_put (ref := "Shedwheel$Feeder") (v := .int (nI (ho + ps))) (fs' := [.int (nI sg), .int (nI mw), .int (nI cr), .int (nI of), .int (nI (ho + ps)), .int (nI th), .int (nI co)]) C hin_X0_letPass_X0 tyX0 tyX0_ok nmX0 hL0 hF0 rfl 4 (by decide) (by decide +kernel) (fun _ h9 => h9) rfl rfl rfl (Nat.le_of_ble_eq_true rfl) rfl dX0_letPass_14 (fun F6_ h7_ k8_ => ?_)
    have kc9_ : ∀ b, b ≠ h0 → F6_ b = F b := fun b q0 => k8_ b q0
    refine z_aload_n C dX0_letPass_17 rfl 0 rfl ?_
    refine z_dup C dX0_letPass_18 rfl ?_
    refine z_get (ref := "Shedwheel$Feeder") (v := .int (nI th)) C hin_X0_letPass_X0 hL0 h7_ rfl 5 (by decide) (by decide +kernel) (fun _ h9 => h9) rfl dX0_letPass_19 ?_
    refine z_iload_n C dX0_letPass_22 rfl 1 rfl ?_
    refine z_iadd C (nI (th + ps)) dX0_letPass_23 (nI_add th ps) ?_
    refine z_put (ref := "Shedwheel$Feeder") (v := .int (nI (th + ps))) (fs' := [.int (nI sg), .int (nI mw), .int (nI cr), .int (nI of), .int (nI (ho + ps)), .int (nI (th + ps)), .int (nI co)]) C hin_X0_letPass_X0 tyX0 tyX0_ok nmX0 hL0 h7_ rfl 5 (by decide) (by decide +kernel) (fun _ h9 => h9) rfl rfl rfl (Nat.le_of_ble_eq_true rfl) rfl dX0_letPass_24 (fun F10_ h11_ k12_ => ?_)
    have kc13_ : ∀ b, b ≠ h0 → F10_ b = F b := fun b q0 => (k12_ b q0).trans (kc9_ b q0)
    refine z_goto C 47 dX0_letPass_27 (by decide) ?_
    refine z_vret0 C rfl (by decide) (by decide) dX0_letPass_47 ?_
    exact ⟨rfl, rfl, by simp only [if_neg (show ¬ of = 0 by omega)]; exact h11_, kc13_⟩

set_option maxRecDepth 100000 in
theorem hin_X0_init_X0 : ∀ w ∈ u_ws RX0 TX0 7, w ∈ wsX0_init := by decide +kernel
set_option maxHeartbeats 4000000 in
set_option maxRecDepth 100000 in
theorem c_X0_init (l : Launch) (hlst : l.stackTraces = false) (G : zGt) (L : List Nat) (F : Nat → va_E) (h0 : Nat) (sg mw cr of ho th co : Nat) (hL0 : h0 ∈ L) (hF0 : F h0 = .inr (1, [.int (nI sg), .int (nI mw), .int (nI cr), .int (nI of), .int (nI ho), .int (nI th), .int (nI co)])) (ld c1 s1 : Nat) (hc1 : c1 ≤ 1) : zM l yX0_init wsX0_init 1 24 0 0 G L F [.ref h0, .int (nI ld), .int (nI c1), .int (nI s1)] (fun rv L1 F1 => rv = none ∧ L1 = L ∧ F1 h0 = .inr (1, [.int (nI s1), .int (nI ld), .int (nI c1), .int (nI 0), .int (nI 0), .int (nI 0), .int (nI 0)]) ∧ ∀ b, b ≠ h0 → F1 b = F b) := by
  refine z_of (cc := cX0_init) (nL := 4) (ret := none) (own := RX0) hlst (by decide +kernel) rfl rfl (Nat.le_of_ble_eq_true rfl) ?_
  intro p e s m below meth c A hnm C
  refine z_lvs (lv' := [(0, .ref h0), (1, .int (nI ld)), (2, .int (nI c1)), (3, .int (nI s1))]) rfl ?_
  refine z_aload_n C dX0_init_0 rfl 0 rfl ?_
  refine z_obj (T9 := []) C (by decide +kernel) (by decide +kernel) (by decide +kernel) (Nat.le_of_ble_eq_true rfl) (Nat.le_of_ble_eq_true rfl) dX0_init_1 ?_
  refine z_aload_n C dX0_init_4 rfl 0 rfl ?_
  refine z_iconst C (nI 0) dX0_init_5 (by decide) ?_
  refine z_put (ref := "Shedwheel$Feeder") (v := .int (nI 0)) (fs' := [.int (nI sg), .int (nI mw), .int (nI cr), .int (nI 0), .int (nI ho), .int (nI th), .int (nI co)]) C hin_X0_init_X0 tyX0 tyX0_ok nmX0 hL0 hF0 rfl 3 (by decide) (by decide +kernel) (fun _ h9 => h9) rfl rfl rfl (Nat.le_of_ble_eq_true rfl) rfl dX0_init_6 (fun F1_ h2_ k3_ => ?_)
  have kc4_ : ∀ b, b ≠ h0 → F1_ b = F b := fun b q0 => k3_ b q0
  refine z_aload_n C dX0_init_9 rfl 0 rfl ?_
  refine z_iconst C (nI 0) dX0_init_10 (by decide) ?_
  refine z_put (ref := "Shedwheel$Feeder") (v := .int (nI 0)) (fs' := [.int (nI sg), .int (nI mw), .int (nI cr), .int (nI 0), .int (nI 0), .int (nI th), .int (nI co)]) C hin_X0_init_X0 tyX0 tyX0_ok nmX0 hL0 h2_ rfl 4 (by decide) (by decide +kernel) (fun _ h9 => h9) rfl rfl rfl (Nat.le_of_ble_eq_true rfl) rfl dX0_init_11 (fun F5_ h6_ k7_ => ?_)
  have kc8_ : ∀ b, b ≠ h0 → F5_ b = F b := fun b q0 => (k7_ b q0).trans (kc4_ b q0)
  refine z_aload_n C dX0_init_14 rfl 0 rfl ?_
  refine z_iconst C (nI 0) dX0_init_15 (by decide) ?_
  refine z_put (ref := "Shedwheel$Feeder") (v := .int (nI 0)) (fs' := [.int (nI sg), .int (nI mw), .int (nI cr), .int (nI 0), .int (nI 0), .int (nI 0), .int (nI co)]) C hin_X0_init_X0 tyX0 tyX0_ok nmX0 hL0 h6_ rfl 5 (by decide) (by decide +kernel) (fun _ h9 => h9) rfl rfl rfl (Nat.le_of_ble_eq_true rfl) rfl dX0_init_16 (fun F9_ h10_ k11_ => ?_)
  have kc12_ : ∀ b, b ≠ h0 → F9_ b = F b := fun b q0 => (k11_ b q0).trans (kc8_ b q0)
  refine z_aload_n C dX0_init_19 rfl 0 rfl ?_
  refine z_iconst C (nI 0) dX0_init_20 (by decide) ?_
  refine z_put (ref := "Shedwheel$Feeder") (v := .int (nI 0)) (fs' := [.int (nI sg), .int (nI mw), .int (nI cr), .int (nI 0), .int (nI 0), .int (nI 0), .int (nI 0)]) C hin_X0_init_X0 tyX0 tyX0_ok nmX0 hL0 h10_ rfl 6 (by decide) (by decide +kernel) (fun _ h9 => h9) rfl rfl rfl (Nat.le_of_ble_eq_true rfl) rfl dX0_init_21 (fun F13_ h14_ k15_ => ?_)
  have kc16_ : ∀ b, b ≠ h0 → F13_ b = F b := fun b q0 => (k15_ b q0).trans (kc12_ b q0)
  refine z_aload_n C dX0_init_24 rfl 0 rfl ?_
  refine z_iload_n C dX0_init_25 rfl 1 rfl ?_
  refine z_put (ref := "Shedwheel$Feeder") (v := .int (nI ld)) (fs' := [.int (nI sg), .int (nI ld), .int (nI cr), .int (nI 0), .int (nI 0), .int (nI 0), .int (nI 0)]) C hin_X0_init_X0 tyX0 tyX0_ok nmX0 hL0 h14_ rfl 1 (by decide) (by decide +kernel) (fun _ h9 => h9) rfl rfl rfl (Nat.le_of_ble_eq_true rfl) rfl dX0_init_26 (fun F17_ h18_ k19_ => ?_)
  have kc20_ : ∀ b, b ≠ h0 → F17_ b = F b := fun b q0 => (k19_ b q0).trans (kc16_ b q0)
  refine z_aload_n C dX0_init_29 rfl 0 rfl ?_
  refine z_iload_n C dX0_init_30 rfl 2 rfl ?_
  refine z_put (ref := "Shedwheel$Feeder") (v := .int (nI c1)) (fs' := [.int (nI sg), .int (nI ld), .int (nI c1), .int (nI 0), .int (nI 0), .int (nI 0), .int (nI 0)]) C hin_X0_init_X0 tyX0 tyX0_ok nmX0 hL0 h18_ rfl 2 (by decide) (by decide +kernel) (fun _ h9 => h9) rfl (zb_n (b := c1) (by omega)) (zb_f (b := c1) (by omega)) (Nat.le_of_ble_eq_true rfl) rfl dX0_init_31 (fun F21_ h22_ k23_ => ?_)
  have kc24_ : ∀ b, b ≠ h0 → F21_ b = F b := fun b q0 => (k23_ b q0).trans (kc20_ b q0)
  refine z_aload_n C dX0_init_34 rfl 0 rfl ?_
  refine z_iload_n C dX0_init_35 rfl 3 rfl ?_
  refine z_putF (ref := "Shedwheel$Feeder") (v := .int (nI s1)) (fs' := [.int (nI s1), .int (nI ld), .int (nI c1), .int (nI 0), .int (nI 0), .int (nI 0), .int (nI 0)]) C hin_X0_init_X0 tyX0 tyX0_ok nmX0 hL0 h22_ rfl 0 (by decide) (by decide +kernel) (fun _ h9 => h9) rfl hnm rfl rfl rfl (Nat.le_of_ble_eq_true rfl) rfl dX0_init_36 (fun F25_ h26_ k27_ => ?_)
  have kc28_ : ∀ b, b ≠ h0 → F25_ b = F b := fun b q0 => (k27_ b q0).trans (kc24_ b q0)
  refine z_vret0 C rfl (by decide) (by decide) dX0_init_39 ?_
  exact ⟨rfl, rfl, h26_, kc28_⟩
