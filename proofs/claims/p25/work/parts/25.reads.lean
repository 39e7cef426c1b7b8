set_option maxRecDepth 100000 in
theorem hin_mX2_feederOf_X2 : ∀ w ∈ u_ws RX2 TX2 4, w ∈ wsX2_feederOf := by decide +kernel
set_option maxHeartbeats 4000000 in
set_option maxRecDepth 100000 in
theorem m_X2_feederOf (l : Launch) (hlst : l.stackTraces = false) (G : zGt) (L : List Nat) (F : Nat → va_E) (M : Nat → Prop) (a0 a1 a2 b4 b5 b6 b7 : Nat) (ad : Nat → Nat) (n now sl : Nat) (fd : Nat → FdT) (hco : zCo G M L F a0 a1 a2 b4 b5 b6 b7 ad n now sl fd) (k : Nat) (hlt : k < n) : zM l yX2_feederOf wsX2_feederOf 10 154 0 0 G L F [.ref a0, .int (nI k)] (fun rv L1 F1 => rv = some (.ref (ad k)) ∧ L1 = L ∧ F1 = F) := by
  obtain ⟨⟨hL0, hL1, hL2, hL4, hL5, hL6, hL7⟩, hF0, ⟨mo, ea, nn, fe, hF1, hFe, hfe, hMe⟩, hSr, hNb, hFd, hIj, ⟨hn, hnow, hsl⟩, hM0, hM1, hM2, hM4, hM5, hM6, hM7⟩ := id hco
  refine z_of (cc := cX2_feederOf) (nL := 2) (ret := (some (.object "Shedwheel$Feeder"))) (own := RX2) hlst (by decide +kernel) rfl rfl (Nat.le_of_ble_eq_true rfl) ?_
  intro p e s m below meth c A hnm C
  refine z_lvs (lv' := [(0, .ref a0), (1, .int (nI k))]) rfl ?_
  refine z_iload_n C dX2_feederOf_0 rfl 1 rfl ?_
  refine z_if_lt C 15 (((k : Nat) : Int) < (0 : Int)) (zi_lt (zi_N (n := k) (by omega)) zi_0) dX2_feederOf_1 (by decide) (fun c1_ => absurd c1_ (by omega)) (fun c1_ => ?_)
  refine z_iload_n C dX2_feederOf_4 rfl 1 rfl ?_
  refine z_aload_n C dX2_feederOf_5 rfl 0 rfl ?_
  refine z_get (ref := "Shedwheel") (v := .ref a1) C hin_mX2_feederOf_X2 hL0 hF0 rfl 0 (by decide) (by decide +kernel) (fun _ h9 => h9) rfl dX2_feederOf_6 ?_
  refine z_callV (As := []) (st := [.int (nI k)]) (mc := 0) (ms := 0) C hL1 hF1 rfl (c_Jx4a65c_size_8abf5 l hlst G L F a1 mo ea n hL1 hF1 ) (cwV 0 C.1.2.2.2.2 gX2_feederOf_Jx4a65c_size_8abf5 rfl rfl rfl (by decide +kernel) ⟨Nat.le_of_ble_eq_true rfl, Nat.le_of_ble_eq_true rfl⟩) rfl (Nat.le_of_ble_eq_true rfl) ⟨Nat.le_of_ble_eq_true rfl, Nat.le_of_ble_eq_true rfl⟩ dX2_feederOf_9 (z_p ?_)
  refine z_stk (st' := [.int (nI n), .int (nI k)]) rfl ?_
  refine z_icmp_lt C 25 (((k : Nat) : Int) < ((n : Nat) : Int)) (zi_lt (zi_N (n := k) (by omega)) (zi_N (n := n) (by omega))) dX2_feederOf_12 (by decide) (fun c2_ => ?_) (fun c2_ => absurd c2_ (by omega))
  refine z_aload_n C dX2_feederOf_25 rfl 0 rfl ?_
  refine z_get (ref := "Shedwheel") (v := .ref a1) C hin_mX2_feederOf_X2 hL0 hF0 rfl 0 (by decide) (by decide +kernel) (fun _ h9 => h9) rfl dX2_feederOf_26 ?_
  refine z_iload_n C dX2_feederOf_29 rfl 1 rfl ?_
  obtain ⟨hLe, hGe, hnn, hcap⟩ : ea ∈ L ∧ F ea = .inl (G.2.2.1, nn, .inr (.inr (.inr (.inr fe)))) ∧ n ≤ nn ∧ (nn = 10 ∨ nn = 15) := by
    rcases hFe with ⟨h9, -⟩ | h9
    · omega
    · exact h9
  refine z_callV (As := [.int (nI k)]) (st := []) (mc := 0) (ms := 0) C hL1 hF1 rfl (c_Jx4a65c_get_915e3 l hlst G L F a1 mo ea n hL1 hF1 nn k (ad k) fe hLe hGe (by omega) (by omega) (hfe k (by omega)) (by omega) (by omega)) (cwV 1 C.1.2.2.2.2 gX2_feederOf_Jx4a65c_get_915e3 rfl rfl rfl (by decide +kernel) ⟨Nat.le_of_ble_eq_true rfl, Nat.le_of_ble_eq_true rfl⟩) rfl (Nat.le_of_ble_eq_true rfl) ⟨Nat.le_of_ble_eq_true rfl, Nat.le_of_ble_eq_true rfl⟩ dX2_feederOf_30 (z_p ?_)
  refine z_stk (st' := [.ref ((ad k))]) rfl ?_
  have hLa := (hFd k hlt).1
  have hFa : F (ad k) = fdE (fd k) := (hFd k hlt).2.1
  have hOk : fOk now (fd k) := (hFd k hlt).2.2.1
  obtain ⟨u1, u2, u3, u4, u5, u6, u7, u8⟩ := id hOk
  refine z_castX0 C hLa hFa (by decide +kernel) dX2_feederOf_33 ?_
  refine z_aret0 C rfl (by first | exact Or.inl ⟨_, rfl⟩ | exact Or.inr ⟨_, rfl⟩) (by decide) (by decide) dX2_feederOf_36 ?_
  exact ⟨rfl, rfl, rfl⟩

set_option maxRecDepth 100000 in
theorem hin_mX2_isCut_X0 : ∀ w ∈ u_ws RX0 TX0 7, w ∈ wsX2_isCut := by decide +kernel
set_option maxHeartbeats 4000000 in
set_option maxRecDepth 100000 in
theorem m_X2_isCut (l : Launch) (hlst : l.stackTraces = false) (G : zGt) (L : List Nat) (F : Nat → va_E) (M : Nat → Prop) (a0 a1 a2 b4 b5 b6 b7 : Nat) (ad : Nat → Nat) (n now sl : Nat) (fd : Nat → FdT) (hco : zCo G M L F a0 a1 a2 b4 b5 b6 b7 ad n now sl fd) (k : Nat) (hlt : k < n) : zM l yX2_isCut wsX2_isCut 11 175 0 0 G L F [.ref a0, .int (nI k)] (fun rv L1 F1 => rv = some (.int (nI (fOf (fd k)))) ∧ L1 = L ∧ F1 = F) := by
  obtain ⟨⟨hL0, hL1, hL2, hL4, hL5, hL6, hL7⟩, hF0, ⟨mo, ea, nn, fe, hF1, hFe, hfe, hMe⟩, hSr, hNb, hFd, hIj, ⟨hn, hnow, hsl⟩, hM0, hM1, hM2, hM4, hM5, hM6, hM7⟩ := id hco
  refine z_of (cc := cX2_isCut) (nL := 2) (ret := (some .boolean)) (own := RX2) hlst (by decide +kernel) rfl rfl (Nat.le_of_ble_eq_true rfl) ?_
  intro p e s m below meth c A hnm C
  refine z_lvs (lv' := [(0, .ref a0), (1, .int (nI k))]) rfl ?_
  refine z_aload_n C dX2_isCut_0 rfl 0 rfl ?_
  refine z_iload_n C dX2_isCut_1 rfl 1 rfl ?_
  refine z_callV (As := [.int (nI k)]) (st := []) (mc := 0) (ms := 0) C hL0 hF0 rfl (m_X2_feederOf l hlst G L F M a0 a1 a2 b4 b5 b6 b7 ad n now sl fd hco k hlt) (cwV 1 C.1.2.2.2.2 gX2_isCut_X2_feederOf rfl rfl rfl (by decide +kernel) ⟨Nat.le_of_ble_eq_true rfl, Nat.le_of_ble_eq_true rfl⟩) rfl (Nat.le_of_ble_eq_true rfl) ⟨Nat.le_of_ble_eq_true rfl, Nat.le_of_ble_eq_true rfl⟩ dX2_isCut_2 (z_p ?_)
  refine z_stk (st' := [.ref ((ad k))]) rfl ?_
  have hLa := (hFd k hlt).1
  have hFa : F (ad k) = fdE (fd k) := (hFd k hlt).2.1
  have hOk : fOk now (fd k) := (hFd k hlt).2.2.1
  obtain ⟨u1, u2, u3, u4, u5, u6, u7, u8⟩ := id hOk
  refine z_getN (host := RX2) (ref := "Shedwheel$Feeder") (v := .int (nI (fOf (fd k)))) C hin_mX2_isCut_X0 hLa hFa rfl 3 (by decide) (by decide +kernel) (fun _ h9 => h9) rfl dX2_isCut_5 ?_
  refine z_iret0 C rfl (zb_n (b := fOf (fd k)) (by omega)) (by decide) (by decide) dX2_isCut_8 ?_
  exact ⟨rfl, rfl, rfl⟩

set_option maxHeartbeats 4000000 in
set_option maxRecDepth 100000 in
theorem m_X2_takes (l : Launch) (hlst : l.stackTraces = false) (G : zGt) (L : List Nat) (F : Nat → va_E) (M : Nat → Prop) (a0 a1 a2 b4 b5 b6 b7 : Nat) (ad : Nat → Nat) (n now sl : Nat) (fd : Nat → FdT) (hco : zCo G M L F a0 a1 a2 b4 b5 b6 b7 ad n now sl fd) (k : Nat) (hlt : k < n) : zM l yX2_takes wsX2_takes 11 175 0 0 G L F [.ref a0, .int (nI k)] (fun rv L1 F1 => rv = some (.int (nI (fTk (fd k)))) ∧ L1 = L ∧ F1 = F) := by
  obtain ⟨⟨hL0, hL1, hL2, hL4, hL5, hL6, hL7⟩, hF0, ⟨mo, ea, nn, fe, hF1, hFe, hfe, hMe⟩, hSr, hNb, hFd, hIj, ⟨hn, hnow, hsl⟩, hM0, hM1, hM2, hM4, hM5, hM6, hM7⟩ := id hco
  refine z_of (cc := cX2_takes) (nL := 2) (ret := (some .int)) (own := RX2) hlst (by decide +kernel) rfl rfl (Nat.le_of_ble_eq_true rfl) ?_
  intro p e s m below meth c A hnm C
  refine z_lvs (lv' := [(0, .ref a0), (1, .int (nI k))]) rfl ?_
  refine z_aload_n C dX2_takes_0 rfl 0 rfl ?_
  refine z_iload_n C dX2_takes_1 rfl 1 rfl ?_
  refine z_callV (As := [.int (nI k)]) (st := []) (mc := 0) (ms := 0) C hL0 hF0 rfl (m_X2_feederOf l hlst G L F M a0 a1 a2 b4 b5 b6 b7 ad n now sl fd hco k hlt) (cwV 1 C.1.2.2.2.2 gX2_takes_X2_feederOf rfl rfl rfl (by decide +kernel) ⟨Nat.le_of_ble_eq_true rfl, Nat.le_of_ble_eq_true rfl⟩) rfl (Nat.le_of_ble_eq_true rfl) ⟨Nat.le_of_ble_eq_true rfl, Nat.le_of_ble_eq_true rfl⟩ dX2_takes_2 (z_p ?_)
  refine z_stk (st' := [.ref ((ad k))]) rfl ?_
  have hLa := (hFd k hlt).1
  have hFa : F (ad k) = fdE (fd k) := (hFd k hlt).2.1
  have hOk : fOk now (fd k) := (hFd k hlt).2.2.1
  obtain ⟨u1, u2, u3, u4, u5, u6, u7, u8⟩ := id hOk
  refine z_callVN (As := []) (st := []) (mc := 0) (ms := 0) C hLa hFa rfl (c_X0_taken l hlst G L F (ad k) (fSg (fd k)) (fMw (fd k)) (fCr (fd k)) (fOf (fd k)) (fHo (fd k)) (fTh (fd k)) (fCo (fd k)) hLa hFa (by omega) (by omega) (by omega)) ⟨va_cnB 0 C.1.2.2.2.2 gX2_takes_X0_taken_n112 rfl rfl rfl (z_nl (host := RX2) C (by decide +kernel)) (C.1.2.2.2.2 _ (show Cond.initialized RX0 ∈ _ from (by decide +kernel))) (by decide +kernel) ⟨Nat.le_of_ble_eq_true rfl, Nat.le_of_ble_eq_true rfl⟩, C.1.2.2.2.2 _ (show Cond.instanceMethod yX0_taken ∈ _ from (by decide +kernel)), C.1.2.2.2.2 _ (show Cond.selects RX0 yX0_taken yX0_taken ∈ _ from (by decide +kernel))⟩ rfl (Nat.le_of_ble_eq_true rfl) ⟨Nat.le_of_ble_eq_true rfl, Nat.le_of_ble_eq_true rfl⟩ dX2_takes_5 (z_p ?_)
  refine z_stk (st' := [.int (nI (tkV (fMw (fd k)) (fOf (fd k)) (fCo (fd k))))]) rfl ?_
  refine z_iret0 C rfl rfl (by decide) (by decide) dX2_takes_8 ?_
  exact ⟨rfl, rfl, rfl⟩

set_option maxRecDepth 100000 in
theorem hin_mX2_cold_X0 : ∀ w ∈ u_ws RX0 TX0 7, w ∈ wsX2_cold := by decide +kernel
set_option maxHeartbeats 4000000 in
set_option maxRecDepth 100000 in
theorem m_X2_cold (l : Launch) (hlst : l.stackTraces = false) (G : zGt) (L : List Nat) (F : Nat → va_E) (M : Nat → Prop) (a0 a1 a2 b4 b5 b6 b7 : Nat) (ad : Nat → Nat) (n now sl : Nat) (fd : Nat → FdT) (hco : zCo G M L F a0 a1 a2 b4 b5 b6 b7 ad n now sl fd) (k : Nat) (hlt : k < n) : zM l yX2_cold wsX2_cold 11 175 0 0 G L F [.ref a0, .int (nI k)] (fun rv L1 F1 => rv = some (.int (nI (fCo (fd k)))) ∧ L1 = L ∧ F1 = F) := by
  obtain ⟨⟨hL0, hL1, hL2, hL4, hL5, hL6, hL7⟩, hF0, ⟨mo, ea, nn, fe, hF1, hFe, hfe, hMe⟩, hSr, hNb, hFd, hIj, ⟨hn, hnow, hsl⟩, hM0, hM1, hM2, hM4, hM5, hM6, hM7⟩ := id hco
  refine z_of (cc := cX2_cold) (nL := 2) (ret := (some .int)) (own := RX2) hlst (by decide +kernel) rfl rfl (Nat.le_of_ble_eq_true rfl) ?_
  intro p e s m below meth c A hnm C
  refine z_lvs (lv' := [(0, .ref a0), (1, .int (nI k))]) rfl ?_
  refine z_aload_n C dX2_cold_0 rfl 0 rfl ?_
  refine z_iload_n C dX2_cold_1 rfl 1 rfl ?_
  refine z_callV (As := [.int (nI k)]) (st := []) (mc := 0) (ms := 0) C hL0 hF0 rfl (m_X2_feederOf l hlst G L F M a0 a1 a2 b4 b5 b6 b7 ad n now sl fd hco k hlt) (cwV 1 C.1.2.2.2.2 gX2_cold_X2_feederOf rfl rfl rfl (by decide +kernel) ⟨Nat.le_of_ble_eq_true rfl, Nat.le_of_ble_eq_true rfl⟩) rfl (Nat.le_of_ble_eq_true rfl) ⟨Nat.le_of_ble_eq_true rfl, Nat.le_of_ble_eq_true rfl⟩ dX2_cold_2 (z_p ?_)
  refine z_stk (st' := [.ref ((ad k))]) rfl ?_
  have hLa := (hFd k hlt).1
  have hFa : F (ad k) = fdE (fd k) := (hFd k hlt).2.1
  have hOk : fOk now (fd k) := (hFd k hlt).2.2.1
  obtain ⟨u1, u2, u3, u4, u5, u6, u7, u8⟩ := id hOk
  refine z_getN (host := RX2) (ref := "Shedwheel$Feeder") (v := .int (nI (fCo (fd k)))) C hin_mX2_cold_X0 hLa hFa rfl 6 (by decide) (by decide +kernel) (fun _ h9 => h9) rfl dX2_cold_5 ?_
  refine z_iret0 C rfl rfl (by decide) (by decide) dX2_cold_8 ?_
  exact ⟨rfl, rfl, rfl⟩

set_option maxRecDepth 100000 in
theorem hin_mX2_hours_X0 : ∀ w ∈ u_ws RX0 TX0 7, w ∈ wsX2_hours := by decide +kernel
set_option maxHeartbeats 4000000 in
set_option maxRecDepth 100000 in
theorem m_X2_hours (l : Launch) (hlst : l.stackTraces = false) (G : zGt) (L : List Nat) (F : Nat → va_E) (M : Nat → Prop) (a0 a1 a2 b4 b5 b6 b7 : Nat) (ad : Nat → Nat) (n now sl : Nat) (fd : Nat → FdT) (hco : zCo G M L F a0 a1 a2 b4 b5 b6 b7 ad n now sl fd) (k : Nat) (hlt : k < n) : zM l yX2_hours wsX2_hours 11 175 0 0 G L F [.ref a0, .int (nI k)] (fun rv L1 F1 => rv = some (.int (nI (fHo (fd k)))) ∧ L1 = L ∧ F1 = F) := by
  obtain ⟨⟨hL0, hL1, hL2, hL4, hL5, hL6, hL7⟩, hF0, ⟨mo, ea, nn, fe, hF1, hFe, hfe, hMe⟩, hSr, hNb, hFd, hIj, ⟨hn, hnow, hsl⟩, hM0, hM1, hM2, hM4, hM5, hM6, hM7⟩ := id hco
  refine z_of (cc := cX2_hours) (nL := 2) (ret := (some .int)) (own := RX2) hlst (by decide +kernel) rfl rfl (Nat.le_of_ble_eq_true rfl) ?_
  intro p e s m below meth c A hnm C
  refine z_lvs (lv' := [(0, .ref a0), (1, .int (nI k))]) rfl ?_
  refine z_aload_n C dX2_hours_0 rfl 0 rfl ?_
  refine z_iload_n C dX2_hours_1 rfl 1 rfl ?_
  refine z_callV (As := [.int (nI k)]) (st := []) (mc := 0) (ms := 0) C hL0 hF0 rfl (m_X2_feederOf l hlst G L F M a0 a1 a2 b4 b5 b6 b7 ad n now sl fd hco k hlt) (cwV 1 C.1.2.2.2.2 gX2_hours_X2_feederOf rfl rfl rfl (by decide +kernel) ⟨Nat.le_of_ble_eq_true rfl, Nat.le_of_ble_eq_true rfl⟩) rfl (Nat.le_of_ble_eq_true rfl) ⟨Nat.le_of_ble_eq_true rfl, Nat.le_of_ble_eq_true rfl⟩ dX2_hours_2 (z_p ?_)
  refine z_stk (st' := [.ref ((ad k))]) rfl ?_
  have hLa := (hFd k hlt).1
  have hFa : F (ad k) = fdE (fd k) := (hFd k hlt).2.1
  have hOk : fOk now (fd k) := (hFd k hlt).2.2.1
  obtain ⟨u1, u2, u3, u4, u5, u6, u7, u8⟩ := id hOk
  refine z_getN (host := RX2) (ref := "Shedwheel$Feeder") (v := .int (nI (fHo (fd k)))) C hin_mX2_hours_X0 hLa hFa rfl 4 (by decide) (by decide +kernel) (fun _ h9 => h9) rfl dX2_hours_5 ?_
  refine z_iret0 C rfl rfl (by decide) (by decide) dX2_hours_8 ?_
  exact ⟨rfl, rfl, rfl⟩
