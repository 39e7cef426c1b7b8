set_option maxHeartbeats 4000000 in
set_option maxRecDepth 100000 in
theorem c_X2_requireWithin (l : Launch) (hlst : l.stackTraces = false) (G : zGt) (L : List Nat) (F : Nat → va_E) (v : Int32) (lo hi : Nat) (hlo : lo < 100000) (hhi : hi < 100000) : zX l yX2_requireWithin wsX2_requireWithin 7 90 1 6 G L F [.int v, .int (nI lo), .int (nI hi)] (fun rv L1 F1 => rv = none ∧ L1 = L ∧ F1 = F ∧ zIn lo hi v) (fun E L1 F1 => L1 = L ∧ F1 = F ∧ E = "java/lang/IllegalArgumentException" ∧ ¬ zIn lo hi v) := by
  refine z_ofX (cc := cX2_requireWithin) (nL := 3) (ret := none) (own := RX2) hlst (by decide +kernel) rfl rfl (Nat.le_of_ble_eq_true rfl) ?_
  intro p e s m below meth c A hout C
  refine z_lvs (lv' := [(0, .int v), (1, .int (nI lo)), (2, .int (nI hi))]) rfl ?_
  refine z_iload_n C dX2_requireWithin_0 rfl 0 rfl ?_
  refine z_iload_n C dX2_requireWithin_1 rfl 1 rfl ?_
  refine z_icmp_lt C 10 ((v).toInt < ((lo : Nat) : Int)) (zi_lt rfl (zi_N (n := lo) (by omega))) dX2_requireWithin_2 (by decide) (fun c1_ => ?_) (fun c1_ => ?_)
  · -- 2 taken
    refine z_throw (cls := "java/lang/IllegalArgumentException") (text := "out of range") (ik := 146) (is := 148) (ic := 150) C rfl (by decide +kernel) (by decide +kernel) (by decide +kernel) (by decide +kernel) ["java/lang/RuntimeException", "java/lang/Exception"] (by decide +kernel) (by decide +kernel) (by decide +kernel) (by decide +kernel) (by decide +kernel) dX2_requireWithin_10 dX2_requireWithin_13 dX2_requireWithin_14 dX2_requireWithin_16 dX2_requireWithin_19 hout (Nat.le_of_ble_eq_true rfl) (Nat.le_of_ble_eq_true rfl) (Nat.le_of_ble_eq_true rfl) (Nat.le_of_ble_eq_true rfl) (Nat.le_of_ble_eq_true rfl) (Nat.le_of_ble_eq_true rfl) ?_
    exact ⟨rfl, rfl, rfl, fun h9 => (by obtain ⟨g1, g2⟩ := h9; omega)⟩
  · -- 2 not taken
    refine z_iload_n C dX2_requireWithin_5 rfl 0 rfl ?_
    refine z_iload_n C dX2_requireWithin_6 rfl 2 rfl ?_
    refine z_icmp_le C 20 ((v).toInt ≤ ((hi : Nat) : Int)) (zi_le rfl (zi_N (n := hi) (by omega))) dX2_requireWithin_7 (by decide) (fun c2_ => ?_) (fun c2_ => ?_)
    · -- 7 taken
      refine z_vret C rfl (by decide) (by decide) dX2_requireWithin_20 ?_
      exact ⟨rfl, rfl, rfl, ⟨by omega, by omega⟩⟩
    · -- 7 not taken
      refine z_throw (cls := "java/lang/IllegalArgumentException") (text := "out of range") (ik := 146) (is := 148) (ic := 150) C rfl (by decide +kernel) (by decide +kernel) (by decide +kernel) (by decide +kernel) ["java/lang/RuntimeException", "java/lang/Exception"] (by decide +kernel) (by decide +kernel) (by decide +kernel) (by decide +kernel) (by decide +kernel) dX2_requireWithin_10 dX2_requireWithin_13 dX2_requireWithin_14 dX2_requireWithin_16 dX2_requireWithin_19 hout (Nat.le_of_ble_eq_true rfl) (Nat.le_of_ble_eq_true rfl) (Nat.le_of_ble_eq_true rfl) (Nat.le_of_ble_eq_true rfl) (Nat.le_of_ble_eq_true rfl) (Nat.le_of_ble_eq_true rfl) ?_
      exact ⟨rfl, rfl, rfl, fun h9 => (by obtain ⟨g1, g2⟩ := h9; omega)⟩

set_option maxRecDepth 100000 in
theorem hin_X2_feederOf_X2 : ∀ w ∈ u_ws RX2 TX2 4, w ∈ wsX2_feederOf := by decide +kernel
set_option maxHeartbeats 4000000 in
set_option maxRecDepth 100000 in
theorem c_X2_feederOf (l : Launch) (hlst : l.stackTraces = false) (G : zGt) (L : List Nat) (F : Nat → va_E) (M : Nat → Prop) (a0 a1 a2 b4 b5 b6 b7 : Nat) (ad : Nat → Nat) (n now sl : Nat) (fd : Nat → FdT) (hco : zCo G M L F a0 a1 a2 b4 b5 b6 b7 ad n now sl fd) (x : Int32) : zX l yX2_feederOf wsX2_feederOf 10 154 1 6 G L F [.ref a0, .int x] (fun rv L1 F1 => ∃ k : Nat, k < n ∧ x = nI k ∧ rv = some (.ref (ad k)) ∧ L1 = L ∧ F1 = F) (fun E L1 F1 => L1 = L ∧ F1 = F ∧ E = "java/lang/IndexOutOfBoundsException" ∧ ¬ zIx n x) := by
  obtain ⟨⟨hL0, hL1, hL2, hL4, hL5, hL6, hL7⟩, hF0, ⟨mo, ea, nn, fe, hF1, hFe, hfe, hMe⟩, hSr, hNb, hFd, hIj, ⟨hn, hnow, hsl⟩, hM0, hM1, hM2, hM4, hM5, hM6, hM7⟩ := id hco
  refine z_ofX (cc := cX2_feederOf) (nL := 2) (ret := (some (.object "Shedwheel$Feeder"))) (own := RX2) hlst (by decide +kernel) rfl rfl (Nat.le_of_ble_eq_true rfl) ?_
  intro p e s m below meth c A hout C
  refine z_lvs (lv' := [(0, .ref a0), (1, .int x)]) rfl ?_
  refine z_iload_n C dX2_feederOf_0 rfl 1 rfl ?_
  refine z_if_lt C 15 ((x).toInt < (0 : Int)) (zi_lt rfl zi_0) dX2_feederOf_1 (by decide) (fun c1_ => ?_) (fun c1_ => ?_)
  · -- 1 taken
    refine z_throw (cls := "java/lang/IndexOutOfBoundsException") (text := "no such feeder") (ik := 151) (is := 153) (ic := 155) C rfl (by decide +kernel) (by decide +kernel) (by decide +kernel) (by decide +kernel) ["java/lang/RuntimeException", "java/lang/Exception"] (by decide +kernel) (by decide +kernel) (by decide +kernel) (by decide +kernel) (by decide +kernel) dX2_feederOf_15 dX2_feederOf_18 dX2_feederOf_19 dX2_feederOf_21 dX2_feederOf_24 hout (Nat.le_of_ble_eq_true rfl) (Nat.le_of_ble_eq_true rfl) (Nat.le_of_ble_eq_true rfl) (Nat.le_of_ble_eq_true rfl) (Nat.le_of_ble_eq_true rfl) (Nat.le_of_ble_eq_true rfl) ?_
    exact ⟨rfl, rfl, rfl, fun h9 => (by obtain ⟨g1, g2⟩ := h9; omega)⟩
  · -- 1 not taken
    refine z_iload_n C dX2_feederOf_4 rfl 1 rfl ?_
    refine z_aload_n C dX2_feederOf_5 rfl 0 rfl ?_
    refine z_get (ref := "Shedwheel") (v := .ref a1) C hin_X2_feederOf_X2 hL0 hF0 rfl 0 (by decide) (by decide +kernel) (fun _ h9 => h9) rfl dX2_feederOf_6 ?_
    refine z_callV (As := []) (st := [.int x]) (mc := 0) (ms := 0) C hL1 hF1 rfl (c_Jx4a65c_size_8abf5 l hlst G L F a1 mo ea n hL1 hF1 ) (cwV 0 C.1.2.2.2.2 gX2_feederOf_Jx4a65c_size_8abf5 rfl rfl rfl (by decide +kernel) ⟨Nat.le_of_ble_eq_true rfl, Nat.le_of_ble_eq_true rfl⟩) rfl (Nat.le_of_ble_eq_true rfl) ⟨Nat.le_of_ble_eq_true rfl, Nat.le_of_ble_eq_true rfl⟩ dX2_feederOf_9 (z_p ?_)
    refine z_stk (st' := [.int (nI n), .int x]) rfl ?_
    refine z_icmp_lt C 25 ((x).toInt < ((n : Nat) : Int)) (zi_lt rfl (zi_N (n := n) (by omega))) dX2_feederOf_12 (by decide) (fun c2_ => ?_) (fun c2_ => ?_)
    · -- 12 taken
      obtain ⟨k, hxk, hkn⟩ := zIx_of (n := n) (v := x) ⟨by omega, by omega⟩
      refine z_lvs (lv' := [(0, .ref a0), (1, .int (nI k))]) (by rw [hxk]) ?_
      refine z_aload_n C dX2_feederOf_25 rfl 0 rfl ?_
      refine z_get (ref := "Shedwheel") (v := .ref a1) C hin_X2_feederOf_X2 hL0 hF0 rfl 0 (by decide) (by decide +kernel) (fun _ h9 => h9) rfl dX2_feederOf_26 ?_
      refine z_iload_n C dX2_feederOf_29 rfl 1 rfl ?_
      have hlt : k < n := by omega
      obtain ⟨hLe, hGe, hnn, hcap⟩ : ea ∈ L ∧ F ea = .inl (G.2.2.1, nn, .inr (.inr (.inr (.inr fe)))) ∧ n ≤ nn ∧ (nn = 10 ∨ nn = 15) := by
        rcases hFe with ⟨h9, -⟩ | h9
        · omega
        · exact h9
      refine z_callV (As := [.int (nI k)]) (st := []) (mc := 0) (ms := 0) C hL1 hF1 rfl (c_Jx4a65c_get_915e3 l hlst G L F a1 mo ea n hL1 hF1 nn k (ad k) fe hLe hGe (by omega) (by omega) (hfe k (by omega)) (by omega) (by omega)) (cwV 1 C.1.2.2.2.2 gX2_feederOf_Jx4a65c_get_915e3 rfl rfl rfl (by decide +kernel) ⟨Nat.le_of_ble_eq_true rfl, Nat.le_of_ble_eq_true rfl⟩) rfl (Nat.le_of_ble_eq_true rfl) ⟨Nat.le_of_ble_eq_true rfl, Nat.le_of_ble_eq_true rfl⟩ dX2_feederOf_30 (z_p ?_)
      refine z_stk (st' := [.ref ((ad k))]) rfl ?_
      have hLa := (hFd k hlt).1
      have hFa : F (ad k) = fdE (fd k) := (hFd k hlt).2.1
      have hOk : fOk now (fd k) := (hFd k hlt).2.2.1
      obtain ⟨u1, u2, u3, u4, u5, u6, u7, u8⟩ := id hOk
      refine z_castX0 C hLa hFa (by decide +kernel) dX2_feederOf_33 ?_
      refine z_aret C rfl (by first | exact Or.inl ⟨_, rfl⟩ | exact Or.inr ⟨_, rfl⟩) (by decide) (by decide) dX2_feederOf_36 ?_
      exact ⟨k, hkn, hxk, rfl, rfl, rfl⟩
    · -- 12 not taken
      refine z_throw (cls := "java/lang/IndexOutOfBoundsException") (text := "no such feeder") (ik := 151) (is := 153) (ic := 155) C rfl (by decide +kernel) (by decide +kernel) (by decide +kernel) (by decide +kernel) ["java/lang/RuntimeException", "java/lang/Exception"] (by decide +kernel) (by decide +kernel) (by decide +kernel) (by decide +kernel) (by decide +kernel) dX2_feederOf_15 dX2_feederOf_18 dX2_feederOf_19 dX2_feederOf_21 dX2_feederOf_24 hout (Nat.le_of_ble_eq_true rfl) (Nat.le_of_ble_eq_true rfl) (Nat.le_of_ble_eq_true rfl) (Nat.le_of_ble_eq_true rfl) (Nat.le_of_ble_eq_true rfl) (Nat.le_of_ble_eq_true rfl) ?_
      exact ⟨rfl, rfl, rfl, fun h9 => (by obtain ⟨g1, g2⟩ := h9; omega)⟩

set_option maxRecDepth 100000 in
theorem hin_X2_hour_X2 : ∀ w ∈ u_ws RX2 TX2 4, w ∈ wsX2_hour := by decide +kernel
set_option maxHeartbeats 4000000 in
set_option maxRecDepth 100000 in
theorem c_X2_hour (l : Launch) (hlst : l.stackTraces = false) (G : zGt) (L : List Nat) (F : Nat → va_E) (M : Nat → Prop) (a0 a1 a2 b4 b5 b6 b7 : Nat) (ad : Nat → Nat) (n now sl : Nat) (fd : Nat → FdT) (hco : zCo G M L F a0 a1 a2 b4 b5 b6 b7 ad n now sl fd)  : zM l yX2_hour wsX2_hour 1 24 0 0 G L F [.ref a0] (fun rv L1 F1 => rv = some (.int (nI now)) ∧ L1 = L ∧ F1 = F) := by
  obtain ⟨⟨hL0, hL1, hL2, hL4, hL5, hL6, hL7⟩, hF0, ⟨mo, ea, nn, fe, hF1, hFe, hfe, hMe⟩, hSr, hNb, hFd, hIj, ⟨hn, hnow, hsl⟩, hM0, hM1, hM2, hM4, hM5, hM6, hM7⟩ := id hco
  refine z_of (cc := cX2_hour) (nL := 1) (ret := (some .int)) (own := RX2) hlst (by decide +kernel) rfl rfl (Nat.le_of_ble_eq_true rfl) ?_
  intro p e s m below meth c A hnm C
  refine z_lvs (lv' := [(0, .ref a0)]) rfl ?_
  refine z_aload_n C dX2_hour_0 rfl 0 rfl ?_
  refine z_get (ref := "Shedwheel") (v := .int (nI now)) C hin_X2_hour_X2 hL0 hF0 rfl 2 (by decide) (by decide +kernel) (fun _ h9 => h9) rfl dX2_hour_1 ?_
  refine z_iret0 C rfl rfl (by decide) (by decide) dX2_hour_4 ?_
  exact ⟨rfl, rfl, rfl⟩

set_option maxRecDepth 100000 in
theorem hin_X2_feeders_X2 : ∀ w ∈ u_ws RX2 TX2 4, w ∈ wsX2_feeders := by decide +kernel
set_option maxHeartbeats 4000000 in
set_option maxRecDepth 100000 in
theorem c_X2_feeders (l : Launch) (hlst : l.stackTraces = false) (G : zGt) (L : List Nat) (F : Nat → va_E) (M : Nat → Prop) (a0 a1 a2 b4 b5 b6 b7 : Nat) (ad : Nat → Nat) (n now sl : Nat) (fd : Nat → FdT) (hco : zCo G M L F a0 a1 a2 b4 b5 b6 b7 ad n now sl fd)  : zM l yX2_feeders wsX2_feeders 2 44 0 0 G L F [.ref a0] (fun rv L1 F1 => rv = some (.int (nI n)) ∧ L1 = L ∧ F1 = F) := by
  obtain ⟨⟨hL0, hL1, hL2, hL4, hL5, hL6, hL7⟩, hF0, ⟨mo, ea, nn, fe, hF1, hFe, hfe, hMe⟩, hSr, hNb, hFd, hIj, ⟨hn, hnow, hsl⟩, hM0, hM1, hM2, hM4, hM5, hM6, hM7⟩ := id hco
  refine z_of (cc := cX2_feeders) (nL := 1) (ret := (some .int)) (own := RX2) hlst (by decide +kernel) rfl rfl (Nat.le_of_ble_eq_true rfl) ?_
  intro p e s m below meth c A hnm C
  refine z_lvs (lv' := [(0, .ref a0)]) rfl ?_
  refine z_aload_n C dX2_feeders_0 rfl 0 rfl ?_
  refine z_get (ref := "Shedwheel") (v := .ref a1) C hin_X2_feeders_X2 hL0 hF0 rfl 0 (by decide) (by decide +kernel) (fun _ h9 => h9) rfl dX2_feeders_1 ?_
  refine z_callV (As := []) (st := []) (mc := 0) (ms := 0) C hL1 hF1 rfl (c_Jx4a65c_size_8abf5 l hlst G L F a1 mo ea n hL1 hF1 ) (cwV 0 C.1.2.2.2.2 gX2_feeders_Jx4a65c_size_8abf5 rfl rfl rfl (by decide +kernel) ⟨Nat.le_of_ble_eq_true rfl, Nat.le_of_ble_eq_true rfl⟩) rfl (Nat.le_of_ble_eq_true rfl) ⟨Nat.le_of_ble_eq_true rfl, Nat.le_of_ble_eq_true rfl⟩ dX2_feeders_4 (z_p ?_)
  refine z_stk (st' := [.int (nI n)]) rfl ?_
  refine z_iret0 C rfl rfl (by decide) (by decide) dX2_feeders_7 ?_
  exact ⟨rfl, rfl, rfl⟩

set_option maxRecDepth 100000 in
theorem hin_X2_isCut_X0 : ∀ w ∈ u_ws RX0 TX0 7, w ∈ wsX2_isCut := by decide +kernel
set_option maxHeartbeats 4000000 in
set_option maxRecDepth 100000 in
theorem c_X2_isCut (l : Launch) (hlst : l.stackTraces = false) (G : zGt) (L : List Nat) (F : Nat → va_E) (M : Nat → Prop) (a0 a1 a2 b4 b5 b6 b7 : Nat) (ad : Nat → Nat) (n now sl : Nat) (fd : Nat → FdT) (hco : zCo G M L F a0 a1 a2 b4 b5 b6 b7 ad n now sl fd) (x : Int32) : zX l yX2_isCut wsX2_isCut 11 175 1 6 G L F [.ref a0, .int x] (fun rv L1 F1 => ∃ k : Nat, k < n ∧ x = nI k ∧ rv = some (.int (nI (fOf (fd k)))) ∧ L1 = L ∧ F1 = F) (fun E L1 F1 => L1 = L ∧ F1 = F ∧ E = "java/lang/IndexOutOfBoundsException" ∧ ¬ zIx n x) := by
  obtain ⟨⟨hL0, hL1, hL2, hL4, hL5, hL6, hL7⟩, hF0, ⟨mo, ea, nn, fe, hF1, hFe, hfe, hMe⟩, hSr, hNb, hFd, hIj, ⟨hn, hnow, hsl⟩, hM0, hM1, hM2, hM4, hM5, hM6, hM7⟩ := id hco
  refine z_ofX (cc := cX2_isCut) (nL := 2) (ret := (some .boolean)) (own := RX2) hlst (by decide +kernel) rfl rfl (Nat.le_of_ble_eq_true rfl) ?_
  intro p e s m below meth c A hout C
  refine z_lvs (lv' := [(0, .ref a0), (1, .int x)]) rfl ?_
  refine z_aload_n C dX2_isCut_0 rfl 0 rfl ?_
  refine z_iload_n C dX2_isCut_1 rfl 1 rfl ?_
  refine z_callVX (As := [.int x]) (st := []) (mc := 1) (ms := 6) C hL0 hF0 rfl (c_X2_feederOf l hlst G L F M a0 a1 a2 b4 b5 b6 b7 ad n now sl fd hco x) (cwV 1 C.1.2.2.2.2 gX2_isCut_X2_feederOf rfl rfl rfl (by decide +kernel) ⟨Nat.le_of_ble_eq_true rfl, Nat.le_of_ble_eq_true rfl⟩) rfl (Nat.le_of_ble_eq_true rfl) ⟨Nat.le_of_ble_eq_true rfl, Nat.le_of_ble_eq_true rfl⟩ dX2_isCut_2 (z_xo C hout (Nat.le_of_ble_eq_true rfl) (Nat.le_of_ble_eq_true rfl) (fun E9 L9 F9 hx => ⟨hx.1, hx.2.1, hx.2.2⟩)) (fun rv9 L9 F9 hp9 => ?_)
  obtain ⟨k, hlt, hxk, e91, e92, e93⟩ := hp9
  rw [e91, e92, e93]
  refine z_stk (st' := [.ref ((ad k))]) rfl ?_
  have hLa := (hFd k hlt).1
  have hFa : F (ad k) = fdE (fd k) := (hFd k hlt).2.1
  have hOk : fOk now (fd k) := (hFd k hlt).2.2.1
  obtain ⟨u1, u2, u3, u4, u5, u6, u7, u8⟩ := id hOk
  refine z_getN (host := RX2) (ref := "Shedwheel$Feeder") (v := .int (nI (fOf (fd k)))) C hin_X2_isCut_X0 hLa hFa rfl 3 (by decide) (by decide +kernel) (fun _ h9 => h9) rfl dX2_isCut_5 ?_
  refine z_iret C rfl (zb_n (b := fOf (fd k)) (by omega)) (by decide) (by decide) dX2_isCut_8 ?_
  exact ⟨k, hlt, hxk, rfl, rfl, rfl⟩

set_option maxHeartbeats 4000000 in
set_option maxRecDepth 100000 in
theorem c_X2_takes (l : Launch) (hlst : l.stackTraces = false) (G : zGt) (L : List Nat) (F : Nat → va_E) (M : Nat → Prop) (a0 a1 a2 b4 b5 b6 b7 : Nat) (ad : Nat → Nat) (n now sl : Nat) (fd : Nat → FdT) (hco : zCo G M L F a0 a1 a2 b4 b5 b6 b7 ad n now sl fd) (x : Int32) : zX l yX2_takes wsX2_takes 11 175 1 6 G L F [.ref a0, .int x] (fun rv L1 F1 => ∃ k : Nat, k < n ∧ x = nI k ∧ rv = some (.int (nI (fTk (fd k)))) ∧ L1 = L ∧ F1 = F) (fun E L1 F1 => L1 = L ∧ F1 = F ∧ E = "java/lang/IndexOutOfBoundsException" ∧ ¬ zIx n x) := by
  obtain ⟨⟨hL0, hL1, hL2, hL4, hL5, hL6, hL7⟩, hF0, ⟨mo, ea, nn, fe, hF1, hFe, hfe, hMe⟩, hSr, hNb, hFd, hIj, ⟨hn, hnow, hsl⟩, hM0, hM1, hM2, hM4, hM5, hM6, hM7⟩ := id hco
  refine z_ofX (cc := cX2_takes) (nL := 2) (ret := (some .int)) (own := RX2) hlst (by decide +kernel) rfl rfl (Nat.le_of_ble_eq_true rfl) ?_
  intro p e s m below meth c A hout C
  refine z_lvs (lv' := [(0, .ref a0), (1, .int x)]) rfl ?_
  refine z_aload_n C dX2_takes_0 rfl 0 rfl ?_
  refine z_iload_n C dX2_takes_1 rfl 1 rfl ?_
  refine z_callVX (As := [.int x]) (st := []) (mc := 1) (ms := 6) C hL0 hF0 rfl (c_X2_feederOf l hlst G L F M a0 a1 a2 b4 b5 b6 b7 ad n now sl fd hco x) (cwV 1 C.1.2.2.2.2 gX2_takes_X2_feederOf rfl rfl rfl (by decide +kernel) ⟨Nat.le_of_ble_eq_true rfl, Nat.le_of_ble_eq_true rfl⟩) rfl (Nat.le_of_ble_eq_true rfl) ⟨Nat.le_of_ble_eq_true rfl, Nat.le_of_ble_eq_true rfl⟩ dX2_takes_2 (z_xo C hout (Nat.le_of_ble_eq_true rfl) (Nat.le_of_ble_eq_true rfl) (fun E9 L9 F9 hx => ⟨hx.1, hx.2.1, hx.2.2⟩)) (fun rv9 L9 F9 hp9 => ?_)
  obtain ⟨k, hlt, hxk, e91, e92, e93⟩ := hp9
  rw [e91, e92, e93]
  refine z_stk (st' := [.ref ((ad k))]) rfl ?_
  have hLa := (hFd k hlt).1
  have hFa : F (ad k) = fdE (fd k) := (hFd k hlt).2.1
  have hOk : fOk now (fd k) := (hFd k hlt).2.2.1
  obtain ⟨u1, u2, u3, u4, u5, u6, u7, u8⟩ := id hOk
  refine z_callVN (As := []) (st := []) (mc := 0) (ms := 0) C hLa hFa rfl (c_X0_taken l hlst G L F (ad k) (fSg (fd k)) (fMw (fd k)) (fCr (fd k)) (fOf (fd k)) (fHo (fd k)) (fTh (fd k)) (fCo (fd k)) hLa hFa (by omega) (by omega) (by omega)) ⟨va_cnB 0 C.1.2.2.2.2 gX2_takes_X0_taken_n112 rfl rfl rfl (z_nl (host := RX2) C (by decide +kernel)) (C.1.2.2.2.2 _ (show Cond.initialized RX0 ∈ _ from (by decide +kernel))) (by decide +kernel) ⟨Nat.le_of_ble_eq_true rfl, Nat.le_of_ble_eq_true rfl⟩, C.1.2.2.2.2 _ (show Cond.instanceMethod yX0_taken ∈ _ from (by decide +kernel)), C.1.2.2.2.2 _ (show Cond.selects RX0 yX0_taken yX0_taken ∈ _ from (by decide +kernel))⟩ rfl (Nat.le_of_ble_eq_true rfl) ⟨Nat.le_of_ble_eq_true rfl, Nat.le_of_ble_eq_true rfl⟩ dX2_takes_5 (z_p ?_)
  refine z_stk (st' := [.int (nI (tkV (fMw (fd k)) (fOf (fd k)) (fCo (fd k))))]) rfl ?_
  refine z_iret C rfl rfl (by decide) (by decide) dX2_takes_8 ?_
  exact ⟨k, hlt, hxk, rfl, rfl, rfl⟩

set_option maxRecDepth 100000 in
theorem hin_X2_cold_X0 : ∀ w ∈ u_ws RX0 TX0 7, w ∈ wsX2_cold := by decide +kernel
set_option maxHeartbeats 4000000 in
set_option maxRecDepth 100000 in
theorem c_X2_cold (l : Launch) (hlst : l.stackTraces = false) (G : zGt) (L : List Nat) (F : Nat → va_E) (M : Nat → Prop) (a0 a1 a2 b4 b5 b6 b7 : Nat) (ad : Nat → Nat) (n now sl : Nat) (fd : Nat → FdT) (hco : zCo G M L F a0 a1 a2 b4 b5 b6 b7 ad n now sl fd) (x : Int32) : zX l yX2_cold wsX2_cold 11 175 1 6 G L F [.ref a0, .int x] (fun rv L1 F1 => ∃ k : Nat, k < n ∧ x = nI k ∧ rv = some (.int (nI (fCo (fd k)))) ∧ L1 = L ∧ F1 = F) (fun E L1 F1 => L1 = L ∧ F1 = F ∧ E = "java/lang/IndexOutOfBoundsException" ∧ ¬ zIx n x) := by
  obtain ⟨⟨hL0, hL1, hL2, hL4, hL5, hL6, hL7⟩, hF0, ⟨mo, ea, nn, fe, hF1, hFe, hfe, hMe⟩, hSr, hNb, hFd, hIj, ⟨hn, hnow, hsl⟩, hM0, hM1, hM2, hM4, hM5, hM6, hM7⟩ := id hco
  refine z_ofX (cc := cX2_cold) (nL := 2) (ret := (some .int)) (own := RX2) hlst (by decide +kernel) rfl rfl (Nat.le_of_ble_eq_true rfl) ?_
  intro p e s m below meth c A hout C
  refine z_lvs (lv' := [(0, .ref a0), (1, .int x)]) rfl ?_
  refine z_aload_n C dX2_cold_0 rfl 0 rfl ?_
  refine z_iload_n C dX2_cold_1 rfl 1 rfl ?_
  refine z_callVX (As := [.int x]) (st := []) (mc := 1) (ms := 6) C hL0 hF0 rfl (c_X2_feederOf l hlst G L F M a0 a1 a2 b4 b5 b6 b7 ad n now sl fd hco x) (cwV 1 C.1.2.2.2.2 gX2_cold_X2_feederOf rfl rfl rfl (by decide +kernel) ⟨Nat.le_of_ble_eq_true rfl, Nat.le_of_ble_eq_true rfl⟩) rfl (Nat.le_of_ble_eq_true rfl) ⟨Nat.le_of_ble_eq_true rfl, Nat.le_of_ble_eq_true rfl⟩ dX2_cold_2 (z_xo C hout (Nat.le_of_ble_eq_true rfl) (Nat.le_of_ble_eq_true rfl) (fun E9 L9 F9 hx => ⟨hx.1, hx.2.1, hx.2.2⟩)) (fun rv9 L9 F9 hp9 => ?_)
  obtain ⟨k, hlt, hxk, e91, e92, e93⟩ := hp9
  rw [e91, e92, e93]
  refine z_stk (st' := [.ref ((ad k))]) rfl ?_
  have hLa := (hFd k hlt).1
  have hFa : F (ad k) = fdE (fd k) := (hFd k hlt).2.1
  have hOk : fOk now (fd k) := (hFd k hlt).2.2.1
  obtain ⟨u1, u2, u3, u4, u5, u6, u7, u8⟩ := id hOk
  refine z_getN (host := RX2) (ref := "Shedwheel$Feeder") (v := .int (nI (fCo (fd k)))) C hin_X2_cold_X0 hLa hFa rfl 6 (by decide) (by decide +kernel) (fun _ h9 => h9) rfl dX2_cold_5 ?_
  refine z_iret C rfl rfl (by decide) (by decide) dX2_cold_8 ?_
  exact ⟨k, hlt, hxk, rfl, rfl, rfl⟩

set_option maxRecDepth 100000 in
theorem hin_X2_hours_X0 : ∀ w ∈ u_ws RX0 TX0 7, w ∈ wsX2_hours := by decide +kernel
set_option maxHeartbeats 4000000 in
set_option maxRecDepth 100000 in
theorem c_X2_hours (l : Launch) (hlst : l.stackTraces = false) (G : zGt) (L : List Nat) (F : Nat → va_E) (M : Nat → Prop) (a0 a1 a2 b4 b5 b6 b7 : Nat) (ad : Nat → Nat) (n now sl : Nat) (fd : Nat → FdT) (hco : zCo G M L F a0 a1 a2 b4 b5 b6 b7 ad n now sl fd) (x : Int32) : zX l yX2_hours wsX2_hours 11 175 1 6 G L F [.ref a0, .int x] (fun rv L1 F1 => ∃ k : Nat, k < n ∧ x = nI k ∧ rv = some (.int (nI (fHo (fd k)))) ∧ L1 = L ∧ F1 = F) (fun E L1 F1 => L1 = L ∧ F1 = F ∧ E = "java/lang/IndexOutOfBoundsException" ∧ ¬ zIx n x) := by
  obtain ⟨⟨hL0, hL1, hL2, hL4, hL5, hL6, hL7⟩, hF0, ⟨mo, ea, nn, fe, hF1, hFe, hfe, hMe⟩, hSr, hNb, hFd, hIj, ⟨hn, hnow, hsl⟩, hM0, hM1, hM2, hM4, hM5, hM6, hM7⟩ := id hco
  refine z_ofX (cc := cX2_hours) (nL := 2) (ret := (some .int)) (own := RX2) hlst (by decide +kernel) rfl rfl (Nat.le_of_ble_eq_true rfl) ?_
  intro p e s m below meth c A hout C
  refine z_lvs (lv' := [(0, .ref a0), (1, .int x)]) rfl ?_
  refine z_aload_n C dX2_hours_0 rfl 0 rfl ?_
  refine z_iload_n C dX2_hours_1 rfl 1 rfl ?_
  refine z_callVX (As := [.int x]) (st := []) (mc := 1) (ms := 6) C hL0 hF0 rfl (c_X2_feederOf l hlst G L F M a0 a1 a2 b4 b5 b6 b7 ad n now sl fd hco x) (cwV 1 C.1.2.2.2.2 gX2_hours_X2_feederOf rfl rfl rfl (by decide +kernel) ⟨Nat.le_of_ble_eq_true rfl, Nat.le_of_ble_eq_true rfl⟩) rfl (Nat.le_of_ble_eq_true rfl) ⟨Nat.le_of_ble_eq_true rfl, Nat.le_of_ble_eq_true rfl⟩ dX2_hours_2 (z_xo C hout (Nat.le_of_ble_eq_true rfl) (Nat.le_of_ble_eq_true rfl) (fun E9 L9 F9 hx => ⟨hx.1, hx.2.1, hx.2.2⟩)) (fun rv9 L9 F9 hp9 => ?_)
  obtain ⟨k, hlt, hxk, e91, e92, e93⟩ := hp9
  rw [e91, e92, e93]
  refine z_stk (st' := [.ref ((ad k))]) rfl ?_
  have hLa := (hFd k hlt).1
  have hFa : F (ad k) = fdE (fd k) := (hFd k hlt).2.1
  have hOk : fOk now (fd k) := (hFd k hlt).2.2.1
  obtain ⟨u1, u2, u3, u4, u5, u6, u7, u8⟩ := id hOk
  refine z_getN (host := RX2) (ref := "Shedwheel$Feeder") (v := .int (nI (fHo (fd k)))) C hin_X2_hours_X0 hLa hFa rfl 4 (by decide) (by decide +kernel) (fun _ h9 => h9) rfl dX2_hours_5 ?_
  refine z_iret C rfl rfl (by decide) (by decide) dX2_hours_8 ?_
  exact ⟨k, hlt, hxk, rfl, rfl, rfl⟩

set_option maxRecDepth 100000 in
theorem hin_X2_load_X2 : ∀ w ∈ u_ws RX2 TX2 4, w ∈ wsX2_load := by decide +kernel
set_option maxHeartbeats 4000000 in
set_option maxRecDepth 100000 in
theorem c_X2_load (l : Launch) (hlst : l.stackTraces = false) (G : zGt) (L : List Nat) (F : Nat → va_E) (M : Nat → Prop) (a0 a1 a2 b4 b5 b6 b7 : Nat) (ad : Nat → Nat) (n now sl : Nat) (fd : Nat → FdT) (hco : zCo G M L F a0 a1 a2 b4 b5 b6 b7 ad n now sl fd)  : zM l yX2_load wsX2_load 10 154 0 0 G L F [.ref a0] (fun rv L1 F1 => rv = some (.int (nI (smV (fun j => fTk (fd j)) n))) ∧ L1 = L ∧ F1 = F) := by
  obtain ⟨⟨hL0, hL1, hL2, hL4, hL5, hL6, hL7⟩, hF0, ⟨mo, ea, nn, fe, hF1, hFe, hfe, hMe⟩, hSr, hNb, hFd, hIj, ⟨hn, hnow, hsl⟩, hM0, hM1, hM2, hM4, hM5, hM6, hM7⟩ := id hco
  refine z_of (cc := cX2_load) (nL := 3) (ret := (some .int)) (own := RX2) hlst (by decide +kernel) rfl rfl (Nat.le_of_ble_eq_true rfl) ?_
  intro p e s m below meth c A hnm C
  refine z_lvs (lv' := [(0, .ref a0)]) rfl ?_
  refine z_iconst C (nI 0) dX2_load_0 (by decide) ?_
  refine z_istore_n (lv' := [(1, .int (nI 0)), (0, .ref a0)]) C dX2_load_1 rfl (by decide) rfl ?_
  refine z_iconst C (nI 0) dX2_load_2 (by decide) ?_
  refine z_istore_n (lv' := [(2, .int (nI 0)), (1, .int (nI 0)), (0, .ref a0)]) C dX2_load_3 rfl (by decide) rfl ?_
  refine z_lvs (lv' := [(2, .int (nI 0)), (1, .int (nI (smV (fun j => fTk (fd j)) 0))), (0, .ref a0)]) rfl ?_
  refine z_sub (lv' := [(0, .ref a0), (1, .int (nI (smV (fun j => fTk (fd j)) 0))), (2, .int (nI 0))]) [2, 1, 0] rfl ?_
  have lp4 : ∀ (N9 : Nat) (k : Nat) (hk : k ≤ n) (h9 : n - k < N9), zW p l e { frames := 10, cells := 0, slots := 0, locals := 154 } s m [.ref a0].toArray below meth c 3 G A (MQ below (zQ G (fun rv L1 F1 => rv = some (.int (nI (smV (fun j => fTk (fd j)) n))) ∧ L1 = L ∧ F1 = F) A) [.ref a0].toArray s 0 0 A) 0 0 L F 4 [(0, .ref a0), (1, .int (nI (smV (fun j => fTk (fd j)) k))), (2, .int (nI k))] [] := by
    intro N9
    induction N9 with
    | zero => intro k hk h9; exact absurd h9 (Nat.not_lt_zero _)
    | succ N9 ih4 =>
      intro k hk hN4
      refine z_iload_n C dX2_load_4 rfl 2 rfl ?_
      refine z_aload_n C dX2_load_5 rfl 0 rfl ?_
      refine z_get (ref := "Shedwheel") (v := .ref a1) C hin_X2_load_X2 hL0 hF0 rfl 0 (by decide) (by decide +kernel) (fun _ h9 => h9) rfl dX2_load_6 ?_
      refine z_callV (As := []) (st := [.int (nI k)]) (mc := 0) (ms := 0) C hL1 hF1 rfl (c_Jx4a65c_size_8abf5 l hlst G L F a1 mo ea n hL1 hF1 ) (cwV 0 C.1.2.2.2.2 gX2_load_Jx4a65c_size_8abf5 rfl rfl rfl (by decide +kernel) ⟨Nat.le_of_ble_eq_true rfl, Nat.le_of_ble_eq_true rfl⟩) rfl (Nat.le_of_ble_eq_true rfl) ⟨Nat.le_of_ble_eq_true rfl, Nat.le_of_ble_eq_true rfl⟩ dX2_load_9 (z_p ?_)
      refine z_stk (st' := [.int (nI n), .int (nI k)]) rfl ?_
      refine z_icmp_ge C 38 (((n : Nat) : Int) ≤ ((k : Nat) : Int)) (zi_le (zi_N (n := n) (by omega)) (zi_N (n := k) (by omega))) dX2_load_12 (by decide) (fun c1_ => ?_) (fun c1_ => ?_)
      · -- 12 taken
        refine z_iload_n C dX2_load_38 rfl 1 rfl ?_
        refine z_iret0 C rfl rfl (by decide) (by decide) dX2_load_39 ?_
        obtain rfl : n = k := by omega
        exact ⟨rfl, rfl, rfl⟩
      · -- 12 not taken
        refine z_iload_n C dX2_load_15 rfl 1 rfl ?_
        refine z_aload_n C dX2_load_16 rfl 0 rfl ?_
        refine z_get (ref := "Shedwheel") (v := .ref a1) C hin_X2_load_X2 hL0 hF0 rfl 0 (by decide) (by decide +kernel) (fun _ h9 => h9) rfl dX2_load_17 ?_
        refine z_iload_n C dX2_load_20 rfl 2 rfl ?_
        have hlt : k < n := by omega
        obtain ⟨hLe, hGe, hnn, hcap⟩ : ea ∈ L ∧ F ea = .inl (G.2.2.1, nn, .inr (.inr (.inr (.inr fe)))) ∧ n ≤ nn ∧ (nn = 10 ∨ nn = 15) := by
          rcases hFe with ⟨h9, -⟩ | h9
          · omega
          · exact h9
        refine z_callV (As := [.int (nI k)]) (st := [.int (nI (smV (fun j => fTk (fd j)) k))]) (mc := 0) (ms := 0) C hL1 hF1 rfl (c_Jx4a65c_get_915e3 l hlst G L F a1 mo ea n hL1 hF1 nn k (ad k) fe hLe hGe (by omega) (by omega) (hfe k (by omega)) (by omega) (by omega)) (cwV 1 C.1.2.2.2.2 gX2_load_Jx4a65c_get_915e3 rfl rfl rfl (by decide +kernel) ⟨Nat.le_of_ble_eq_true rfl, Nat.le_of_ble_eq_true rfl⟩) rfl (Nat.le_of_ble_eq_true rfl) ⟨Nat.le_of_ble_eq_true rfl, Nat.le_of_ble_eq_true rfl⟩ dX2_load_21 (z_p ?_)
        refine z_stk (st' := [.ref ((ad k)), .int (nI (smV (fun j => fTk (fd j)) k))]) rfl ?_
        have hLa := (hFd k hlt).1
        have hFa : F (ad k) = fdE (fd k) := (hFd k hlt).2.1
        have hOk : fOk now (fd k) := (hFd k hlt).2.2.1
        obtain ⟨u1, u2, u3, u4, u5, u6, u7, u8⟩ := id hOk
        refine z_castX0 C hLa hFa (by decide +kernel) dX2_load_24 ?_
        refine z_callVN (As := []) (st := [.int (nI (smV (fun j => fTk (fd j)) k))]) (mc := 0) (ms := 0) C hLa hFa rfl (c_X0_taken l hlst G L F (ad k) (fSg (fd k)) (fMw (fd k)) (fCr (fd k)) (fOf (fd k)) (fHo (fd k)) (fTh (fd k)) (fCo (fd k)) hLa hFa (by omega) (by omega) (by omega)) ⟨va_cnB 0 C.1.2.2.2.2 gX2_load_X0_taken_n112 rfl rfl rfl (z_nl (host := RX2) C (by decide +kernel)) (C.1.2.2.2.2 _ (show Cond.initialized RX0 ∈ _ from (by decide +kernel))) (by decide +kernel) ⟨Nat.le_of_ble_eq_true rfl, Nat.le_of_ble_eq_true rfl⟩, C.1.2.2.2.2 _ (show Cond.instanceMethod yX0_taken ∈ _ from (by decide +kernel)), C.1.2.2.2.2 _ (show Cond.selects RX0 yX0_taken yX0_taken ∈ _ from (by decide +kernel))⟩ rfl (Nat.le_of_ble_eq_true rfl) ⟨Nat.le_of_ble_eq_true rfl, Nat.le_of_ble_eq_true rfl⟩ dX2_load_27 (z_p ?_)
        refine z_stk (st' := [.int (nI (tkV (fMw (fd k)) (fOf (fd k)) (fCo (fd k)))), .int (nI (smV (fun j => fTk (fd j)) k))]) rfl ?_
        refine z_iadd C (nI (smV (fun j => fTk (fd j)) k + tkV (fMw (fd k)) (fOf (fd k)) (fCo (fd k)))) dX2_load_30 (nI_add (smV (fun j => fTk (fd j)) k) (tkV (fMw (fd k)) (fOf (fd k)) (fCo (fd k)))) ?_
        refine z_istore_n (lv' := [(1, .int (nI (smV (fun j => fTk (fd j)) k + tkV (fMw (fd k)) (fOf (fd k)) (fCo (fd k))))), (0, .ref a0), (2, .int (nI k))]) C dX2_load_31 rfl (by decide) rfl ?_
        refine z_iinc (v := nI (k + 1)) (lv' := [(2, .int (nI (k + 1))), (1, .int (nI (smV (fun j => fTk (fd j)) k + tkV (fMw (fd k)) (fOf (fd k)) (fCo (fd k))))), (0, .ref a0)]) C dX2_load_32 2 rfl (nI_add k 1) (by decide) rfl ?_
        refine z_goto C 4 dX2_load_35 (by decide) ?_
        refine z_lvs (lv' := [(2, .int (nI (k + 1))), (1, .int (nI (smV (fun j => fTk (fd j)) (k + 1)))), (0, .ref a0)]) rfl ?_
        refine z_sub (lv' := [(0, .ref a0), (1, .int (nI (smV (fun j => fTk (fd j)) (k + 1)))), (2, .int (nI (k + 1)))]) [2, 1, 0] rfl ?_
        exact ih4 (k + 1) (by omega) (by omega)
  exact lp4 _ 0 (Nat.zero_le _) (Nat.lt_succ_self _)

set_option maxRecDepth 100000 in
theorem hin_X2_loadRestored_X2 : ∀ w ∈ u_ws RX2 TX2 4, w ∈ wsX2_loadRestored := by decide +kernel
set_option maxHeartbeats 4000000 in
set_option maxRecDepth 100000 in
theorem c_X2_loadRestored (l : Launch) (hlst : l.stackTraces = false) (G : zGt) (L : List Nat) (F : Nat → va_E) (M : Nat → Prop) (a0 a1 a2 b4 b5 b6 b7 : Nat) (ad : Nat → Nat) (n now sl : Nat) (fd : Nat → FdT) (hco : zCo G M L F a0 a1 a2 b4 b5 b6 b7 ad n now sl fd)  : zM l yX2_loadRestored wsX2_loadRestored 10 154 0 0 G L F [.ref a0] (fun rv L1 F1 => rv = some (.int (nI (smV (fun j => fRs (fd j)) n))) ∧ L1 = L ∧ F1 = F) := by
  obtain ⟨⟨hL0, hL1, hL2, hL4, hL5, hL6, hL7⟩, hF0, ⟨mo, ea, nn, fe, hF1, hFe, hfe, hMe⟩, hSr, hNb, hFd, hIj, ⟨hn, hnow, hsl⟩, hM0, hM1, hM2, hM4, hM5, hM6, hM7⟩ := id hco
  refine z_of (cc := cX2_loadRestored) (nL := 3) (ret := (some .int)) (own := RX2) hlst (by decide +kernel) rfl rfl (Nat.le_of_ble_eq_true rfl) ?_
  intro p e s m below meth c A hnm C
  refine z_lvs (lv' := [(0, .ref a0)]) rfl ?_
  refine z_iconst C (nI 0) dX2_loadRestored_0 (by decide) ?_
  refine z_istore_n (lv' := [(1, .int (nI 0)), (0, .ref a0)]) C dX2_loadRestored_1 rfl (by decide) rfl ?_
  refine z_iconst C (nI 0) dX2_loadRestored_2 (by decide) ?_
  refine z_istore_n (lv' := [(2, .int (nI 0)), (1, .int (nI 0)), (0, .ref a0)]) C dX2_loadRestored_3 rfl (by decide) rfl ?_
  refine z_lvs (lv' := [(2, .int (nI 0)), (1, .int (nI (smV (fun j => fRs (fd j)) 0))), (0, .ref a0)]) rfl ?_
  refine z_sub (lv' := [(0, .ref a0), (1, .int (nI (smV (fun j => fRs (fd j)) 0))), (2, .int (nI 0))]) [2, 1, 0] rfl ?_
  have lp4 : ∀ (N9 : Nat) (k : Nat) (hk : k ≤ n) (h9 : n - k < N9), zW p l e { frames := 10, cells := 0, slots := 0, locals := 154 } s m [.ref a0].toArray below meth c 3 G A (MQ below (zQ G (fun rv L1 F1 => rv = some (.int (nI (smV (fun j => fRs (fd j)) n))) ∧ L1 = L ∧ F1 = F) A) [.ref a0].toArray s 0 0 A) 0 0 L F 4 [(0, .ref a0), (1, .int (nI (smV (fun j => fRs (fd j)) k))), (2, .int (nI k))] [] := by
    intro N9
    induction N9 with
    | zero => intro k hk h9; exact absurd h9 (Nat.not_lt_zero _)
    | succ N9 ih4 =>
      intro k hk hN4
      refine z_iload_n C dX2_loadRestored_4 rfl 2 rfl ?_
      refine z_aload_n C dX2_loadRestored_5 rfl 0 rfl ?_
      refine z_get (ref := "Shedwheel") (v := .ref a1) C hin_X2_loadRestored_X2 hL0 hF0 rfl 0 (by decide) (by decide +kernel) (fun _ h9 => h9) rfl dX2_loadRestored_6 ?_
      refine z_callV (As := []) (st := [.int (nI k)]) (mc := 0) (ms := 0) C hL1 hF1 rfl (c_Jx4a65c_size_8abf5 l hlst G L F a1 mo ea n hL1 hF1 ) (cwV 0 C.1.2.2.2.2 gX2_loadRestored_Jx4a65c_size_8abf5 rfl rfl rfl (by decide +kernel) ⟨Nat.le_of_ble_eq_true rfl, Nat.le_of_ble_eq_true rfl⟩) rfl (Nat.le_of_ble_eq_true rfl) ⟨Nat.le_of_ble_eq_true rfl, Nat.le_of_ble_eq_true rfl⟩ dX2_loadRestored_9 (z_p ?_)
      refine z_stk (st' := [.int (nI n), .int (nI k)]) rfl ?_
      refine z_icmp_ge C 38 (((n : Nat) : Int) ≤ ((k : Nat) : Int)) (zi_le (zi_N (n := n) (by omega)) (zi_N (n := k) (by omega))) dX2_loadRestored_12 (by decide) (fun c1_ => ?_) (fun c1_ => ?_)
      · -- 12 taken
        refine z_iload_n C dX2_loadRestored_38 rfl 1 rfl ?_
        refine z_iret0 C rfl rfl (by decide) (by decide) dX2_loadRestored_39 ?_
        obtain rfl : n = k := by omega
        exact ⟨rfl, rfl, rfl⟩
      · -- 12 not taken
        refine z_iload_n C dX2_loadRestored_15 rfl 1 rfl ?_
        refine z_aload_n C dX2_loadRestored_16 rfl 0 rfl ?_
        refine z_get (ref := "Shedwheel") (v := .ref a1) C hin_X2_loadRestored_X2 hL0 hF0 rfl 0 (by decide) (by decide +kernel) (fun _ h9 => h9) rfl dX2_loadRestored_17 ?_
        refine z_iload_n C dX2_loadRestored_20 rfl 2 rfl ?_
        have hlt : k < n := by omega
        obtain ⟨hLe, hGe, hnn, hcap⟩ : ea ∈ L ∧ F ea = .inl (G.2.2.1, nn, .inr (.inr (.inr (.inr fe)))) ∧ n ≤ nn ∧ (nn = 10 ∨ nn = 15) := by
          rcases hFe with ⟨h9, -⟩ | h9
          · omega
          · exact h9
        refine z_callV (As := [.int (nI k)]) (st := [.int (nI (smV (fun j => fRs (fd j)) k))]) (mc := 0) (ms := 0) C hL1 hF1 rfl (c_Jx4a65c_get_915e3 l hlst G L F a1 mo ea n hL1 hF1 nn k (ad k) fe hLe hGe (by omega) (by omega) (hfe k (by omega)) (by omega) (by omega)) (cwV 1 C.1.2.2.2.2 gX2_loadRestored_Jx4a65c_get_915e3 rfl rfl rfl (by decide +kernel) ⟨Nat.le_of_ble_eq_true rfl, Nat.le_of_ble_eq_true rfl⟩) rfl (Nat.le_of_ble_eq_true rfl) ⟨Nat.le_of_ble_eq_true rfl, Nat.le_of_ble_eq_true rfl⟩ dX2_loadRestored_21 (z_p ?_)
        refine z_stk (st' := [.ref ((ad k)), .int (nI (smV (fun j => fRs (fd j)) k))]) rfl ?_
        have hLa := (hFd k hlt).1
        have hFa : F (ad k) = fdE (fd k) := (hFd k hlt).2.1
        have hOk : fOk now (fd k) := (hFd k hlt).2.2.1
        obtain ⟨u1, u2, u3, u4, u5, u6, u7, u8⟩ := id hOk
        refine z_castX0 C hLa hFa (by decide +kernel) dX2_loadRestored_24 ?_
        refine z_callVN (As := []) (st := [.int (nI (smV (fun j => fRs (fd j)) k))]) (mc := 0) (ms := 0) C hLa hFa rfl (c_X0_takenIfRestored l hlst G L F (ad k) (fSg (fd k)) (fMw (fd k)) (fCr (fd k)) (fOf (fd k)) (fHo (fd k)) (fTh (fd k)) (fCo (fd k)) hLa hFa (by omega) (by omega) (by omega) (by omega)) ⟨va_cnB 0 C.1.2.2.2.2 gX2_loadRestored_X0_takenIfRestored_n143 rfl rfl rfl (z_nl (host := RX2) C (by decide +kernel)) (C.1.2.2.2.2 _ (show Cond.initialized RX0 ∈ _ from (by decide +kernel))) (by decide +kernel) ⟨Nat.le_of_ble_eq_true rfl, Nat.le_of_ble_eq_true rfl⟩, C.1.2.2.2.2 _ (show Cond.instanceMethod yX0_takenIfRestored ∈ _ from (by decide +kernel)), C.1.2.2.2.2 _ (show Cond.selects RX0 yX0_takenIfRestored yX0_takenIfRestored ∈ _ from (by decide +kernel))⟩ rfl (Nat.le_of_ble_eq_true rfl) ⟨Nat.le_of_ble_eq_true rfl, Nat.le_of_ble_eq_true rfl⟩ dX2_loadRestored_27 (z_p ?_)
        refine z_stk (st' := [.int (nI (rsV (fMw (fd k)) (fOf (fd k)) (fTh (fd k)) (fCo (fd k)))), .int (nI (smV (fun j => fRs (fd j)) k))]) rfl ?_
        refine z_iadd C (nI (smV (fun j => fRs (fd j)) k + rsV (fMw (fd k)) (fOf (fd k)) (fTh (fd k)) (fCo (fd k)))) dX2_loadRestored_30 (nI_add (smV (fun j => fRs (fd j)) k) (rsV (fMw (fd k)) (fOf (fd k)) (fTh (fd k)) (fCo (fd k)))) ?_
        refine z_istore_n (lv' := [(1, .int (nI (smV (fun j => fRs (fd j)) k + rsV (fMw (fd k)) (fOf (fd k)) (fTh (fd k)) (fCo (fd k))))), (0, .ref a0), (2, .int (nI k))]) C dX2_loadRestored_31 rfl (by decide) rfl ?_
        refine z_iinc (v := nI (k + 1)) (lv' := [(2, .int (nI (k + 1))), (1, .int (nI (smV (fun j => fRs (fd j)) k + rsV (fMw (fd k)) (fOf (fd k)) (fTh (fd k)) (fCo (fd k))))), (0, .ref a0)]) C dX2_loadRestored_32 2 rfl (nI_add k 1) (by decide) rfl ?_
        refine z_goto C 4 dX2_loadRestored_35 (by decide) ?_
        refine z_lvs (lv' := [(2, .int (nI (k + 1))), (1, .int (nI (smV (fun j => fRs (fd j)) (k + 1)))), (0, .ref a0)]) rfl ?_
        refine z_sub (lv' := [(0, .ref a0), (1, .int (nI (smV (fun j => fRs (fd j)) (k + 1)))), (2, .int (nI (k + 1)))]) [2, 1, 0] rfl ?_
        exact ih4 (k + 1) (by omega) (by omega)
  exact lp4 _ 0 (Nat.zero_le _) (Nat.lt_succ_self _)

set_option maxRecDepth 100000 in
theorem hin_X2_takenByReturning_X2 : ∀ w ∈ u_ws RX2 TX2 4, w ∈ wsX2_takenByReturning := by decide +kernel
set_option maxHeartbeats 4000000 in
set_option maxRecDepth 100000 in
theorem c_X2_takenByReturning (l : Launch) (hlst : l.stackTraces = false) (G : zGt) (L : List Nat) (F : Nat → va_E) (M : Nat → Prop) (a0 a1 a2 b4 b5 b6 b7 : Nat) (ad : Nat → Nat) (n now sl : Nat) (fd : Nat → FdT) (hco : zCo G M L F a0 a1 a2 b4 b5 b6 b7 ad n now sl fd)  : zM l yX2_takenByReturning wsX2_takenByReturning 10 154 0 0 G L F [.ref a0] (fun rv L1 F1 => rv = some (.int (nI (smV (fun j => rtV (fd j)) n))) ∧ L1 = L ∧ F1 = F) := by
  obtain ⟨⟨hL0, hL1, hL2, hL4, hL5, hL6, hL7⟩, hF0, ⟨mo, ea, nn, fe, hF1, hFe, hfe, hMe⟩, hSr, hNb, hFd, hIj, ⟨hn, hnow, hsl⟩, hM0, hM1, hM2, hM4, hM5, hM6, hM7⟩ := id hco
  refine z_of (cc := cX2_takenByReturning) (nL := 4) (ret := (some .int)) (own := RX2) hlst (by decide +kernel) rfl rfl (Nat.le_of_ble_eq_true rfl) ?_
  intro p e s m below meth c A hnm C
  refine z_lvs (lv' := [(0, .ref a0)]) rfl ?_
  refine z_iconst C (nI 0) dX2_takenByReturning_0 (by decide) ?_
  refine z_istore_n (lv' := [(1, .int (nI 0)), (0, .ref a0)]) C dX2_takenByReturning_1 rfl (by decide) rfl ?_
  refine z_iconst C (nI 0) dX2_takenByReturning_2 (by decide) ?_
  refine z_istore_n (lv' := [(2, .int (nI 0)), (1, .int (nI 0)), (0, .ref a0)]) C dX2_takenByReturning_3 rfl (by decide) rfl ?_
  refine z_lvs (lv' := [(2, .int (nI 0)), (1, .int (nI (smV (fun j => rtV (fd j)) 0))), (0, .ref a0)]) rfl ?_
  refine z_sub (lv' := [(0, .ref a0), (1, .int (nI (smV (fun j => rtV (fd j)) 0))), (2, .int (nI 0))]) [2, 1, 0] rfl ?_
  have lp4 : ∀ (N9 : Nat) (k : Nat) (hk : k ≤ n) (h9 : n - k < N9), zW p l e { frames := 10, cells := 0, slots := 0, locals := 154 } s m [.ref a0].toArray below meth c 4 G A (MQ below (zQ G (fun rv L1 F1 => rv = some (.int (nI (smV (fun j => rtV (fd j)) n))) ∧ L1 = L ∧ F1 = F) A) [.ref a0].toArray s 0 0 A) 0 0 L F 4 [(0, .ref a0), (1, .int (nI (smV (fun j => rtV (fd j)) k))), (2, .int (nI k))] [] := by
    intro N9
    induction N9 with
    | zero => intro k hk h9; exact absurd h9 (Nat.not_lt_zero _)
    | succ N9 ih4 =>
      intro k hk hN4
      refine z_iload_n C dX2_takenByReturning_4 rfl 2 rfl ?_
      refine z_aload_n C dX2_takenByReturning_5 rfl 0 rfl ?_
      refine z_get (ref := "Shedwheel") (v := .ref a1) C hin_X2_takenByReturning_X2 hL0 hF0 rfl 0 (by decide) (by decide +kernel) (fun _ h9 => h9) rfl dX2_takenByReturning_6 ?_
      refine z_callV (As := []) (st := [.int (nI k)]) (mc := 0) (ms := 0) C hL1 hF1 rfl (c_Jx4a65c_size_8abf5 l hlst G L F a1 mo ea n hL1 hF1 ) (cwV 0 C.1.2.2.2.2 gX2_takenByReturning_Jx4a65c_size_8abf5 rfl rfl rfl (by decide +kernel) ⟨Nat.le_of_ble_eq_true rfl, Nat.le_of_ble_eq_true rfl⟩) rfl (Nat.le_of_ble_eq_true rfl) ⟨Nat.le_of_ble_eq_true rfl, Nat.le_of_ble_eq_true rfl⟩ dX2_takenByReturning_9 (z_p ?_)
      refine z_stk (st' := [.int (nI n), .int (nI k)]) rfl ?_
      refine z_icmp_ge C 47 (((n : Nat) : Int) ≤ ((k : Nat) : Int)) (zi_le (zi_N (n := n) (by omega)) (zi_N (n := k) (by omega))) dX2_takenByReturning_12 (by decide) (fun c1_ => ?_) (fun c1_ => ?_)
      · -- 12 taken
        refine z_iload_n C dX2_takenByReturning_47 rfl 1 rfl ?_
        refine z_iret0 C rfl rfl (by decide) (by decide) dX2_takenByReturning_48 ?_
        obtain rfl : n = k := by omega
        exact ⟨rfl, rfl, rfl⟩
      · -- 12 not taken
        refine z_aload_n C dX2_takenByReturning_15 rfl 0 rfl ?_
        refine z_get (ref := "Shedwheel") (v := .ref a1) C hin_X2_takenByReturning_X2 hL0 hF0 rfl 0 (by decide) (by decide +kernel) (fun _ h9 => h9) rfl dX2_takenByReturning_16 ?_
        refine z_iload_n C dX2_takenByReturning_19 rfl 2 rfl ?_
        have hlt : k < n := by omega
        obtain ⟨hLe, hGe, hnn, hcap⟩ : ea ∈ L ∧ F ea = .inl (G.2.2.1, nn, .inr (.inr (.inr (.inr fe)))) ∧ n ≤ nn ∧ (nn = 10 ∨ nn = 15) := by
          rcases hFe with ⟨h9, -⟩ | h9
          · omega
          · exact h9
        refine z_callV (As := [.int (nI k)]) (st := []) (mc := 0) (ms := 0) C hL1 hF1 rfl (c_Jx4a65c_get_915e3 l hlst G L F a1 mo ea n hL1 hF1 nn k (ad k) fe hLe hGe (by omega) (by omega) (hfe k (by omega)) (by omega) (by omega)) (cwV 1 C.1.2.2.2.2 gX2_takenByReturning_Jx4a65c_get_915e3 rfl rfl rfl (by decide +kernel) ⟨Nat.le_of_ble_eq_true rfl, Nat.le_of_ble_eq_true rfl⟩) rfl (Nat.le_of_ble_eq_true rfl) ⟨Nat.le_of_ble_eq_true rfl, Nat.le_of_ble_eq_true rfl⟩ dX2_takenByReturning_20 (z_p ?_)
        refine z_stk (st' := [.ref ((ad k))]) rfl ?_
        have hLa := (hFd k hlt).1
        have hFa : F (ad k) = fdE (fd k) := (hFd k hlt).2.1
        have hOk : fOk now (fd k) := (hFd k hlt).2.2.1
        obtain ⟨u1, u2, u3, u4, u5, u6, u7, u8⟩ := id hOk
        refine z_castX0 C hLa hFa (by decide +kernel) dX2_takenByReturning_23 ?_
        refine z_astore_n (lv' := [(3, .ref ((ad k))), (0, .ref a0), (1, .int (nI (smV (fun j => rtV (fd j)) k))), (2, .int (nI k))]) C dX2_takenByReturning_26 rfl (by decide) rfl ?_
        refine z_aload_n C dX2_takenByReturning_27 rfl 0 rfl ?_
        refine z_callVN (As := []) (st := []) (mc := 0) (ms := 0) C hLa hFa rfl (c_X0_mayReturn l hlst G L F (ad k) (fSg (fd k)) (fMw (fd k)) (fCr (fd k)) (fOf (fd k)) (fHo (fd k)) (fTh (fd k)) (fCo (fd k)) hLa hFa (by omega) (by omega)) ⟨va_cnB 0 C.1.2.2.2.2 gX2_takenByReturning_X0_mayReturn_n156 rfl rfl rfl (z_nl (host := RX2) C (by decide +kernel)) (C.1.2.2.2.2 _ (show Cond.initialized RX0 ∈ _ from (by decide +kernel))) (by decide +kernel) ⟨Nat.le_of_ble_eq_true rfl, Nat.le_of_ble_eq_true rfl⟩, C.1.2.2.2.2 _ (show Cond.instanceMethod yX0_mayReturn ∈ _ from (by decide +kernel)), C.1.2.2.2.2 _ (show Cond.selects RX0 yX0_mayReturn yX0_mayReturn ∈ _ from (by decide +kernel))⟩ rfl (Nat.le_of_ble_eq_true rfl) ⟨Nat.le_of_ble_eq_true rfl, Nat.le_of_ble_eq_true rfl⟩ dX2_takenByReturning_28 (z_p ?_)
        refine z_stk (st' := [.int (nI (if fOf (fd k) = 1 ∧ fCr (fd k) = 0 then 1 else 0))]) rfl ?_
        refine z_if_eq C 41 (¬ (fOf (fd k) = 1 ∧ fCr (fd k) = 0)) (zif_iff) dX2_takenByReturning_31 (by decide) (fun c2_ => ?_) (fun c2_ => ?_)
        · -- 31 taken
          refine z_iinc (v := nI (k + 1)) (lv' := [(2, .int (nI (k + 1))), (3, .ref ((ad k))), (0, .ref a0), (1, .int (nI (smV (fun j => rtV (fd j)) k)))]) C dX2_takenByReturning_41 3 rfl (nI_add k 1) (by decide) rfl ?_
          refine z_goto C 4 dX2_takenByReturning_44 (by decide) ?_
          refine z_lvs (lv' := [(2, .int (nI (k + 1))), (3, .ref ((ad k))), (0, .ref a0), (1, .int (nI (smV (fun j => rtV (fd j)) (k + 1))))]) (by rw [smV_s, show rtV (fd k) = 0 from by rw [rtV, if_neg (by omega)]]; rfl) ?_
          refine z_sub (lv' := [(0, .ref a0), (1, .int (nI (smV (fun j => rtV (fd j)) (k + 1)))), (2, .int (nI (k + 1)))]) [2, 3, 0] rfl ?_
          exact ih4 (k + 1) (by omega) (by omega)
        · -- 31 not taken
          refine z_iload_n C dX2_takenByReturning_34 rfl 2 rfl ?_
          refine z_aload_n C dX2_takenByReturning_35 rfl 0 rfl ?_
          refine z_callVN (As := []) (st := [.int (nI (smV (fun j => rtV (fd j)) k))]) (mc := 0) (ms := 0) C hLa hFa rfl (c_X0_takenIfRestored l hlst G L F (ad k) (fSg (fd k)) (fMw (fd k)) (fCr (fd k)) (fOf (fd k)) (fHo (fd k)) (fTh (fd k)) (fCo (fd k)) hLa hFa (by omega) (by omega) (by omega) (by omega)) ⟨va_cnB 0 C.1.2.2.2.2 gX2_takenByReturning_X0_takenIfRestored_n143 rfl rfl rfl (z_nl (host := RX2) C (by decide +kernel)) (C.1.2.2.2.2 _ (show Cond.initialized RX0 ∈ _ from (by decide +kernel))) (by decide +kernel) ⟨Nat.le_of_ble_eq_true rfl, Nat.le_of_ble_eq_true rfl⟩, C.1.2.2.2.2 _ (show Cond.instanceMethod yX0_takenIfRestored ∈ _ from (by decide +kernel)), C.1.2.2.2.2 _ (show Cond.selects RX0 yX0_takenIfRestored yX0_takenIfRestored ∈ _ from (by decide +kernel))⟩ rfl (Nat.le_of_ble_eq_true rfl) ⟨Nat.le_of_ble_eq_true rfl, Nat.le_of_ble_eq_true rfl⟩ dX2_takenByReturning_36 (z_p ?_)
          refine z_stk (st' := [.int (nI (rsV (fMw (fd k)) (fOf (fd k)) (fTh (fd k)) (fCo (fd k)))), .int (nI (smV (fun j => rtV (fd j)) k))]) rfl ?_
          refine z_iadd C (nI (smV (fun j => rtV (fd j)) k + rsV (fMw (fd k)) (fOf (fd k)) (fTh (fd k)) (fCo (fd k)))) dX2_takenByReturning_39 (nI_add (smV (fun j => rtV (fd j)) k) (rsV (fMw (fd k)) (fOf (fd k)) (fTh (fd k)) (fCo (fd k)))) ?_
          refine z_istore_n (lv' := [(1, .int (nI (smV (fun j => rtV (fd j)) k + rsV (fMw (fd k)) (fOf (fd k)) (fTh (fd k)) (fCo (fd k))))), (3, .ref ((ad k))), (0, .ref a0), (2, .int (nI k))]) C dX2_takenByReturning_40 rfl (by decide) rfl ?_
          refine z_iinc (v := nI (k + 1)) (lv' := [(2, .int (nI (k + 1))), (1, .int (nI (smV (fun j => rtV (fd j)) k + rsV (fMw (fd k)) (fOf (fd k)) (fTh (fd k)) (fCo (fd k))))), (3, .ref ((ad k))), (0, .ref a0)]) C dX2_takenByReturning_41 3 rfl (nI_add k 1) (by decide) rfl ?_
          refine z_goto C 4 dX2_takenByReturning_44 (by decide) ?_
          refine z_lvs (lv' := [(2, .int (nI (k + 1))), (1, .int (nI (smV (fun j => rtV (fd j)) (k + 1)))), (3, .ref ((ad k))), (0, .ref a0)]) (by rw [smV_s, show rtV (fd k) = fRs (fd k) from by rw [rtV, if_pos (by omega)]]; rfl) ?_
          refine z_sub (lv' := [(0, .ref a0), (1, .int (nI (smV (fun j => rtV (fd j)) (k + 1)))), (2, .int (nI (k + 1)))]) [3, 1, 0] rfl ?_
          exact ih4 (k + 1) (by omega) (by omega)
  exact lp4 _ 0 (Nat.zero_le _) (Nat.lt_succ_self _)

set_option maxRecDepth 100000 in
theorem hin_X2_setSlack_X2 : ∀ w ∈ u_ws RX2 TX2 4, w ∈ wsX2_setSlack := by decide +kernel
set_option maxHeartbeats 4000000 in
set_option maxRecDepth 100000 in
theorem c_X2_setSlack (l : Launch) (hlst : l.stackTraces = false) (G : zGt) (L : List Nat) (F : Nat → va_E) (M : Nat → Prop) (a0 a1 a2 b4 b5 b6 b7 : Nat) (ad : Nat → Nat) (n now sl : Nat) (fd : Nat → FdT) (hco : zCo G M L F a0 a1 a2 b4 b5 b6 b7 ad n now sl fd) (v : Int32) : zX l yX2_setSlack wsX2_setSlack 8 112 1 6 G L F [.ref a0, .int v] (fun rv L1 F1 => ∃ j : Nat, v = nI j ∧ j ≤ 999 ∧ rv = some (.int (nI sl)) ∧ L1 = L ∧ zCo G M L F1 a0 a1 a2 b4 b5 b6 b7 ad n now j fd ∧ ∀ b, M b → F1 b = F b) (fun E L1 F1 => L1 = L ∧ F1 = F ∧ E = "java/lang/IllegalArgumentException" ∧ ¬ zIn 0 999 v) := by
  obtain ⟨⟨hL0, hL1, hL2, hL4, hL5, hL6, hL7⟩, hF0, ⟨mo, ea, nn, fe, hF1, hFe, hfe, hMe⟩, hSr, hNb, hFd, hIj, ⟨hn, hnow, hsl⟩, hM0, hM1, hM2, hM4, hM5, hM6, hM7⟩ := id hco
  refine z_ofX (cc := cX2_setSlack) (nL := 3) (ret := (some .int)) (own := RX2) hlst (by decide +kernel) rfl rfl (Nat.le_of_ble_eq_true rfl) ?_
  intro p e s m below meth c A hout C
  refine z_lvs (lv' := [(0, .ref a0), (1, .int v)]) rfl ?_
  refine z_iload_n C dX2_setSlack_0 rfl 1 rfl ?_
  refine z_iconst C (nI 0) dX2_setSlack_1 (by decide) ?_
  refine z_sipush C (nI 999) dX2_setSlack_2 (by decide) ?_
  refine z_callSX (As := [.int v, .int (nI 0), .int (nI 999)]) (st := []) (mc := 1) (ms := 6) C (c_X2_requireWithin l hlst G L F v 0 999 (by decide) (by decide)) (va_cwS 3 C.1.2.2.2.2 gX2_setSlack_X2_requireWithin rfl rfl rfl (by decide +kernel) ⟨Nat.le_of_ble_eq_true rfl, Nat.le_of_ble_eq_true rfl⟩) rfl (Nat.le_of_ble_eq_true rfl) ⟨Nat.le_of_ble_eq_true rfl, Nat.le_of_ble_eq_true rfl⟩ dX2_setSlack_5 (z_xo C hout (Nat.le_of_ble_eq_true rfl) (Nat.le_of_ble_eq_true rfl) (fun E9 L9 F9 hx => ⟨hx.1, hx.2.1, hx.2.2⟩)) (z_pp (fun hin5 => ?_))
  refine z_stk (st' := []) rfl ?_
  obtain ⟨j, hvj, hj1, hj2⟩ := zIn_of hin5
  refine z_lvs (lv' := [(0, .ref a0), (1, .int (nI j))]) (by rw [hvj]) ?_
  refine z_aload_n C dX2_setSlack_8 rfl 0 rfl ?_
  refine z_get (ref := "Shedwheel") (v := .int (nI sl)) C hin_X2_setSlack_X2 hL0 hF0 rfl 3 (by decide) (by decide +kernel) (fun _ h9 => h9) rfl dX2_setSlack_9 ?_
  refine z_istore_n (lv' := [(2, .int (nI sl)), (0, .ref a0), (1, .int (nI j))]) C dX2_setSlack_12 rfl (by decide) rfl ?_
  refine z_aload_n C dX2_setSlack_13 rfl 1 rfl ?_
  refine z_iload_n C dX2_setSlack_14 rfl 2 rfl ?_
  refine z_put (ref := "Shedwheel") (v := .int (nI j)) (fs' := [.ref a1, .ref a2, .int (nI now), .int (nI j)]) C hin_X2_setSlack_X2 tyX2 tyX2_ok nmX2 hL0 hF0 rfl 3 (by decide) (by decide +kernel) (fun _ h9 => h9) rfl rfl rfl (Nat.le_of_ble_eq_true rfl) rfl dX2_setSlack_15 (fun F1_ h2_ k3_ => ?_)
  have h4_ : F1_ a1 = .inr (0, [.int mo, .ref ea, .int (nI n)]) := (k3_ a1 (zne hF1 hF0 rfl)).trans hF1
  have kc5_ : ∀ b, b ≠ a0 → F1_ b = F b := fun b q0 => k3_ b q0
  refine z_iload_n C dX2_setSlack_18 rfl 0 rfl ?_
  refine z_iret C rfl rfl (by decide) (by decide) dX2_setSlack_19 ?_
  exact ⟨j, hvj, hj2, rfl, rfl, hco.own kc5_ h2_ ⟨Nat.le_refl _, hnow, hj2⟩, fun b hb => kc5_ b (fun e9 => hM0 (e9 ▸ hb))⟩

set_option maxRecDepth 100000 in
theorem hin_X2_pass_X2 : ∀ w ∈ u_ws RX2 TX2 4, w ∈ wsX2_pass := by decide +kernel
set_option maxHeartbeats 4000000 in
set_option maxRecDepth 100000 in
theorem c_X2_pass (l : Launch) (hlst : l.stackTraces = false) (G : zGt) (L : List Nat) (F : Nat → va_E) (M : Nat → Prop) (a0 a1 a2 b4 b5 b6 b7 : Nat) (ad : Nat → Nat) (n now sl : Nat) (fd : Nat → FdT) (hco : zCo G M L F a0 a1 a2 b4 b5 b6 b7 ad n now sl fd) (v : Int32) (hn9 : now ≤ 59900) : zX l yX2_pass wsX2_pass 10 154 1 6 G L F [.ref a0, .int v] (fun rv L1 F1 => ∃ ps : Nat, v = nI ps ∧ 1 ≤ ps ∧ ps ≤ 100 ∧ rv = some (.int (nI (now + ps))) ∧ L1 = L ∧ zCo G M L F1 a0 a1 a2 b4 b5 b6 b7 ad n (now + ps) sl (fdK (fun _ r => fPs ps r) fd n) ∧ ∀ b, M b → F1 b = F b) (fun E L1 F1 => L1 = L ∧ F1 = F ∧ E = "java/lang/IllegalArgumentException" ∧ ¬ zIn 1 100 v) := by
  obtain ⟨⟨hL0, hL1, hL2, hL4, hL5, hL6, hL7⟩, hF0, ⟨mo, ea, nn, fe, hF1, hFe, hfe, hMe⟩, hSr, hNb, hFd, hIj, ⟨hn, hnow, hsl⟩, hM0, hM1, hM2, hM4, hM5, hM6, hM7⟩ := id hco
  refine z_ofX (cc := cX2_pass) (nL := 3) (ret := (some .int)) (own := RX2) hlst (by decide +kernel) rfl rfl (Nat.le_of_ble_eq_true rfl) ?_
  intro p e s m below meth c A hout C
  refine z_lvs (lv' := [(0, .ref a0), (1, .int v)]) rfl ?_
  refine z_iload_n C dX2_pass_0 rfl 1 rfl ?_
  refine z_iconst C (nI 1) dX2_pass_1 (by decide) ?_
  refine z_bipush C (nI 100) dX2_pass_2 (by decide) ?_
  refine z_callSX (As := [.int v, .int (nI 1), .int (nI 100)]) (st := []) (mc := 1) (ms := 6) C (c_X2_requireWithin l hlst G L F v 1 100 (by decide) (by decide)) (va_cwS 3 C.1.2.2.2.2 gX2_pass_X2_requireWithin rfl rfl rfl (by decide +kernel) ⟨Nat.le_of_ble_eq_true rfl, Nat.le_of_ble_eq_true rfl⟩) rfl (Nat.le_of_ble_eq_true rfl) ⟨Nat.le_of_ble_eq_true rfl, Nat.le_of_ble_eq_true rfl⟩ dX2_pass_4 (z_xo C hout (Nat.le_of_ble_eq_true rfl) (Nat.le_of_ble_eq_true rfl) (fun E9 L9 F9 hx => ⟨hx.1, hx.2.1, hx.2.2⟩)) (z_pp (fun hin4 => ?_))
  refine z_stk (st' := []) rfl ?_
  obtain ⟨ps, hvps, hps1, hps2⟩ := zIn_of hin4
  refine z_lvs (lv' := [(0, .ref a0), (1, .int (nI ps))]) (by rw [hvps]) ?_
  refine z_aload_n C dX2_pass_7 rfl 0 rfl ?_
  refine z_dup C dX2_pass_8 rfl ?_
  refine z_get (ref := "Shedwheel") (v := .int (nI now)) C hin_X2_pass_X2 hL0 hF0 rfl 2 (by decide) (by decide +kernel) (fun _ h9 => h9) rfl dX2_pass_9 ?_
  refine z_iload_n C dX2_pass_12 rfl 1 rfl ?_
  refine z_iadd C (nI (now + ps)) dX2_pass_13 (nI_add now ps) ?_
  refine z_put (ref := "Shedwheel") (v := .int (nI (now + ps))) (fs' := [.ref a1, .ref a2, .int (nI (now + ps)), .int (nI sl)]) C hin_X2_pass_X2 tyX2 tyX2_ok nmX2 hL0 hF0 rfl 2 (by decide) (by decide +kernel) (fun _ h9 => h9) rfl rfl rfl (Nat.le_of_ble_eq_true rfl) rfl dX2_pass_14 (fun F1_ h2_ k3_ => ?_)
  have h4_ : F1_ a1 = .inr (0, [.int mo, .ref ea, .int (nI n)]) := (k3_ a1 (zne hF1 hF0 rfl)).trans hF1
  have kc5_ : ∀ b, b ≠ a0 → F1_ b = F b := fun b q0 => k3_ b q0
  refine z_iconst C (nI 0) dX2_pass_17 (by decide) ?_
  refine z_istore_n (lv' := [(2, .int (nI 0)), (0, .ref a0), (1, .int (nI ps))]) C dX2_pass_18 rfl (by decide) rfl ?_
  refine z_sub (lv' := [(0, .ref a0), (1, .int (nI ps)), (2, .int (nI 0))]) [1, 2, 0] rfl ?_
  have hcoA := hco.own kc5_ h2_ ⟨by omega, by omega, hsl⟩
  rw [← fdK_0 (fun _ r => fPs ps r) fd] at hcoA
  have lp19 : ∀ (N9 : Nat) (k : Nat) (F2 : Nat → va_E) (hk : k ≤ n) (hco2 : zCo G M L F2 a0 a1 a2 b4 b5 b6 b7 ad n (now + ps) sl (fdK (fun _ r => fPs ps r) fd k)) (hkM : ∀ b, M b → F2 b = F b) (h9 : n - k < N9), zW p l e { frames := 10, cells := 1, slots := 6, locals := 154 } s m [.ref a0, .int v].toArray below meth c 3 G A (vx_MQ below (zQ G (fun rv L1 F1 => ∃ ps : Nat, v = nI ps ∧ 1 ≤ ps ∧ ps ≤ 100 ∧ rv = some (.int (nI (now + ps))) ∧ L1 = L ∧ zCo G M L F1 a0 a1 a2 b4 b5 b6 b7 ad n (now + ps) sl (fdK (fun _ r => fPs ps r) fd n) ∧ ∀ b, M b → F1 b = F b) A) (zE G (fun E L1 F1 => L1 = L ∧ F1 = F ∧ E = "java/lang/IllegalArgumentException" ∧ ¬ zIn 1 100 v) A) [.ref a0, .int v].toArray s 1 6 A) (0 + 1) (0 + 6) L F2 19 [(0, .ref a0), (1, .int (nI ps)), (2, .int (nI k))] [] := by
    intro N9
    induction N9 with
    | zero => intro k F2 hk hco2 hkM h9; exact absurd h9 (Nat.not_lt_zero _)
    | succ N9 ih19 =>
      intro k F2 hk hco2 hkM hN19
      refine z_iload_n C dX2_pass_19 rfl 2 rfl ?_
      obtain ⟨⟨hL0_2, hL1_2, hL2_2, hL4_2, hL5_2, hL6_2, hL7_2⟩, hF0_2, ⟨mo_2, ea_2, nn_2, fe_2, hF1_2, hFe_2, hfe_2, hMe_2⟩, hSr_2, hNb_2, hFd_2, hIj_2, ⟨hn_2, hnow_2, hsl_2⟩, hM0_2, hM1_2, hM2_2, hM4_2, hM5_2, hM6_2, hM7_2⟩ := id hco2
      refine z_aload_n C dX2_pass_20 rfl 0 rfl ?_
      refine z_get (ref := "Shedwheel") (v := .ref a1) C hin_X2_pass_X2 hL0_2 hF0_2 rfl 0 (by decide) (by decide +kernel) (fun _ h9 => h9) rfl dX2_pass_21 ?_
      refine z_callV (As := []) (st := [.int (nI k)]) (mc := 0) (ms := 0) C hL1_2 hF1_2 rfl (c_Jx4a65c_size_8abf5 l hlst G L F2 a1 mo_2 ea_2 n hL1_2 hF1_2 ) (cwV 0 C.1.2.2.2.2 gX2_pass_Jx4a65c_size_8abf5 rfl rfl rfl (by decide +kernel) ⟨Nat.le_of_ble_eq_true rfl, Nat.le_of_ble_eq_true rfl⟩) rfl (Nat.le_of_ble_eq_true rfl) ⟨Nat.le_of_ble_eq_true rfl, Nat.le_of_ble_eq_true rfl⟩ dX2_pass_24 (z_p ?_)
      refine z_stk (st' := [.int (nI n), .int (nI k)]) rfl ?_
      refine z_icmp_ge C 51 (((n : Nat) : Int) ≤ ((k : Nat) : Int)) (zi_le (zi_N (n := n) (by omega)) (zi_N (n := k) (by omega))) dX2_pass_27 (by decide) (fun c6_ => ?_) (fun c6_ => ?_)
      · -- 27 taken
        refine z_aload_n C dX2_pass_51 rfl 0 rfl ?_
        refine z_get (ref := "Shedwheel") (v := .int (nI (now + ps))) C hin_X2_pass_X2 hL0_2 hF0_2 rfl 2 (by decide) (by decide +kernel) (fun _ h9 => h9) rfl dX2_pass_52 ?_
        refine z_iret C rfl rfl (by decide) (by decide) dX2_pass_55 ?_
        obtain rfl : n = k := by omega
        exact ⟨ps, hvps, hps1, hps2, rfl, rfl, hco2, hkM⟩
      · -- 27 not taken
        refine z_aload_n C dX2_pass_30 rfl 0 rfl ?_
        refine z_get (ref := "Shedwheel") (v := .ref a1) C hin_X2_pass_X2 hL0_2 hF0_2 rfl 0 (by decide) (by decide +kernel) (fun _ h9 => h9) rfl dX2_pass_31 ?_
        refine z_iload_n C dX2_pass_34 rfl 2 rfl ?_
        have hlt : k < n := by omega
        obtain ⟨hLe_2, hGe_2, hnn_2, hcap_2⟩ : ea_2 ∈ L ∧ F2 ea_2 = .inl (G.2.2.1, nn_2, .inr (.inr (.inr (.inr fe_2)))) ∧ n ≤ nn_2 ∧ (nn_2 = 10 ∨ nn_2 = 15) := by
          rcases hFe_2 with ⟨h9, -⟩ | h9
          · omega
          · exact h9
        refine z_callV (As := [.int (nI k)]) (st := []) (mc := 0) (ms := 0) C hL1_2 hF1_2 rfl (c_Jx4a65c_get_915e3 l hlst G L F2 a1 mo_2 ea_2 n hL1_2 hF1_2 nn_2 k (ad k) fe_2 hLe_2 hGe_2 (by omega) (by omega) (hfe_2 k (by omega)) (by omega) (by omega)) (cwV 1 C.1.2.2.2.2 gX2_pass_Jx4a65c_get_915e3 rfl rfl rfl (by decide +kernel) ⟨Nat.le_of_ble_eq_true rfl, Nat.le_of_ble_eq_true rfl⟩) rfl (Nat.le_of_ble_eq_true rfl) ⟨Nat.le_of_ble_eq_true rfl, Nat.le_of_ble_eq_true rfl⟩ dX2_pass_35 (z_p ?_)
        refine z_stk (st' := [.ref ((ad k))]) rfl ?_
        have hLa := (hFd_2 k hlt).1
        have hFa : F2 (ad k) = fdE (fd k) := by
          have h9 := (hFd_2 k hlt).2.1
          rw [fdK_at] at h9
          exact h9
        have hOk : fOk now (fd k) := (hFd k hlt).2.2.1
        obtain ⟨u1, u2, u3, u4, u5, u6, u7, u8⟩ := id hOk
        refine z_castX0 C hLa hFa (by decide +kernel) dX2_pass_38 ?_
        refine z_iload_n C dX2_pass_41 rfl 1 rfl ?_
        refine z_callVN (As := [.int (nI ps)]) (st := []) (mc := 0) (ms := 0) C hLa hFa rfl (c_X0_letPass l hlst G L F2 (ad k) (fSg (fd k)) (fMw (fd k)) (fCr (fd k)) (fOf (fd k)) (fHo (fd k)) (fTh (fd k)) (fCo (fd k)) hLa hFa ps (by omega) (by omega) (by omega)) ⟨va_cnB 1 C.1.2.2.2.2 gX2_pass_X0_letPass_n69 rfl rfl rfl (z_nl (host := RX2) C (by decide +kernel)) (C.1.2.2.2.2 _ (show Cond.initialized RX0 ∈ _ from (by decide +kernel))) (by decide +kernel) ⟨Nat.le_of_ble_eq_true rfl, Nat.le_of_ble_eq_true rfl⟩, C.1.2.2.2.2 _ (show Cond.instanceMethod yX0_letPass ∈ _ from (by decide +kernel)), C.1.2.2.2.2 _ (show Cond.selects RX0 yX0_letPass yX0_letPass ∈ _ from (by decide +kernel))⟩ rfl (Nat.le_of_ble_eq_true rfl) ⟨Nat.le_of_ble_eq_true rfl, Nat.le_of_ble_eq_true rfl⟩ dX2_pass_42 (fun rv7_ L8_ F9_ hp10_ => ?_)
        obtain ⟨e11_, e12_, h13_, k14_⟩ := hp10_
        rw [e11_, e12_]
        have h15_ : F9_ a0 = .inr (3, [.ref a1, .ref a2, .int (nI (now + ps)), .int (nI sl)]) := (k14_ a0 (zne hF0_2 hFa rfl)).trans hF0_2
        have h16_ : F9_ a1 = .inr (0, [.int mo_2, .ref ea_2, .int (nI n)]) := (k14_ a1 (zne hF1_2 hFa rfl)).trans hF1_2
        have kc17_ : ∀ b, b ≠ (ad k) → F9_ b = F2 b := fun b q0 => k14_ b q0
        refine z_stk (st' := []) rfl ?_
        refine z_iinc (v := nI (k + 1)) (lv' := [(2, .int (nI (k + 1))), (0, .ref a0), (1, .int (nI ps))]) C dX2_pass_45 2 rfl (nI_add k 1) (by decide) rfl ?_
        refine z_goto C 19 dX2_pass_48 (by decide) ?_
        have hco3 := hco2.one hlt (fPs_ok hOk) h13_ kc17_
        rw [fdK_s (fun _ r => fPs ps r) fd k rfl] at hco3
        refine z_sub (lv' := [(0, .ref a0), (1, .int (nI ps)), (2, .int (nI (k + 1)))]) [1, 2, 0] rfl ?_
        exact ih19 (k + 1) F9_ (by omega) hco3 (fun b hb => (kc17_ b (hco2.apart hb k hlt)).trans (hkM b hb)) (by omega)
  exact lp19 _ 0 F1_ (Nat.zero_le _) hcoA (fun b hb => kc5_ b (fun e9 => hM0 (e9 ▸ hb))) (Nat.lt_succ_self _)

set_option maxRecDepth 100000 in
theorem hin_X2_restore_X0 : ∀ w ∈ u_ws RX0 TX0 7, w ∈ wsX2_restore := by decide +kernel
set_option maxHeartbeats 4000000 in
set_option maxRecDepth 100000 in
theorem c_X2_restore (l : Launch) (hlst : l.stackTraces = false) (G : zGt) (L : List Nat) (F : Nat → va_E) (M : Nat → Prop) (a0 a1 a2 b4 b5 b6 b7 : Nat) (ad : Nat → Nat) (n now sl : Nat) (fd : Nat → FdT) (hco : zCo G M L F a0 a1 a2 b4 b5 b6 b7 ad n now sl fd) (x : Int32) : zX l yX2_restore wsX2_restore 11 175 2 12 G L F [.ref a0, .int x] (fun rv L1 F1 => ∃ k : Nat, k < n ∧ x = nI k ∧ fOf (fd k) = 1 ∧ rv = some (.int (nI (fTk (fOn (fd k))))) ∧ L1 = L ∧ zCo G M L F1 a0 a1 a2 b4 b5 b6 b7 ad n now sl (upF fd k (fOn (fd k))) ∧ ∀ b, M b → F1 b = F b) (fun E L1 F1 => L1 = L ∧ F1 = F ∧ ((E = "java/lang/IndexOutOfBoundsException" ∧ ¬ zIx n x) ∨ (E = "java/lang/IllegalStateException" ∧ ∃ k : Nat, k < n ∧ x = nI k ∧ fOf (fd k) = 0))) := by
  obtain ⟨⟨hL0, hL1, hL2, hL4, hL5, hL6, hL7⟩, hF0, ⟨mo, ea, nn, fe, hF1, hFe, hfe, hMe⟩, hSr, hNb, hFd, hIj, ⟨hn, hnow, hsl⟩, hM0, hM1, hM2, hM4, hM5, hM6, hM7⟩ := id hco
  refine z_ofX (cc := cX2_restore) (nL := 3) (ret := (some .int)) (own := RX2) hlst (by decide +kernel) rfl rfl (Nat.le_of_ble_eq_true rfl) ?_
  intro p e s m below meth c A hout C
  refine z_lvs (lv' := [(0, .ref a0), (1, .int x)]) rfl ?_
  refine z_aload_n C dX2_restore_0 rfl 0 rfl ?_
  refine z_iload_n C dX2_restore_1 rfl 1 rfl ?_
  refine z_callVX (As := [.int x]) (st := []) (mc := 1) (ms := 6) C hL0 hF0 rfl (c_X2_feederOf l hlst G L F M a0 a1 a2 b4 b5 b6 b7 ad n now sl fd hco x) (cwV 1 C.1.2.2.2.2 gX2_restore_X2_feederOf rfl rfl rfl (by decide +kernel) ⟨Nat.le_of_ble_eq_true rfl, Nat.le_of_ble_eq_true rfl⟩) rfl (Nat.le_of_ble_eq_true rfl) ⟨Nat.le_of_ble_eq_true rfl, Nat.le_of_ble_eq_true rfl⟩ dX2_restore_2 (z_xo C hout (Nat.le_of_ble_eq_true rfl) (Nat.le_of_ble_eq_true rfl) (fun E9 L9 F9 hx => ⟨hx.1, hx.2.1, Or.inl hx.2.2⟩)) (fun rv9 L9 F9 hp9 => ?_)
  obtain ⟨k, hlt, hxk, e91, e92, e93⟩ := hp9
  rw [e91, e92, e93]
  refine z_stk (st' := [.ref ((ad k))]) rfl ?_
  have hLa := (hFd k hlt).1
  have hFa : F (ad k) = fdE (fd k) := (hFd k hlt).2.1
  have hOk : fOk now (fd k) := (hFd k hlt).2.2.1
  obtain ⟨u1, u2, u3, u4, u5, u6, u7, u8⟩ := id hOk
  refine z_astore_n (lv' := [(2, .ref ((ad k))), (0, .ref a0), (1, .int x)]) C dX2_restore_5 rfl (by decide) rfl ?_
  refine z_aload_n C dX2_restore_6 rfl 0 rfl ?_
  refine z_getN (host := RX2) (ref := "Shedwheel$Feeder") (v := .int (nI (fOf (fd k)))) C hin_X2_restore_X0 hLa hFa rfl 3 (by decide) (by decide +kernel) (fun _ h9 => h9) rfl dX2_restore_7 ?_
  refine z_if_ne C 23 (((fOf (fd k) : Nat) : Int) = (0 : Int)) (zi_eq (zi_N (n := fOf (fd k)) (by omega)) zi_0) dX2_restore_10 (by decide) (fun c1_ => ?_) (fun c1_ => ?_)
  · -- 10 taken
    have hcv := crV_le (fTh (fd k))
    refine z_aload_n C dX2_restore_23 rfl 0 rfl ?_
    refine z_callVN (As := []) (st := []) (mc := 0) (ms := 0) C hLa hFa rfl (c_X0_switchOn l hlst G L F (ad k) (fSg (fd k)) (fMw (fd k)) (fCr (fd k)) (fOf (fd k)) (fHo (fd k)) (fTh (fd k)) (fCo (fd k)) hLa hFa (by omega)) ⟨va_cnB 0 C.1.2.2.2.2 gX2_restore_X0_switchOn_n109 rfl rfl rfl (z_nl (host := RX2) C (by decide +kernel)) (C.1.2.2.2.2 _ (show Cond.initialized RX0 ∈ _ from (by decide +kernel))) (by decide +kernel) ⟨Nat.le_of_ble_eq_true rfl, Nat.le_of_ble_eq_true rfl⟩, C.1.2.2.2.2 _ (show Cond.instanceMethod yX0_switchOn ∈ _ from (by decide +kernel)), C.1.2.2.2.2 _ (show Cond.selects RX0 yX0_switchOn yX0_switchOn ∈ _ from (by decide +kernel))⟩ rfl (Nat.le_of_ble_eq_true rfl) ⟨Nat.le_of_ble_eq_true rfl, Nat.le_of_ble_eq_true rfl⟩ dX2_restore_24 (fun rv2_ L3_ F4_ hp5_ => ?_)
    obtain ⟨e6_, e7_, h8_, k9_⟩ := hp5_
    rw [e6_, e7_]
    have h10_ : F4_ a0 = .inr (3, [.ref a1, .ref a2, .int (nI now), .int (nI sl)]) := (k9_ a0 (zne hF0 hFa rfl)).trans hF0
    have h11_ : F4_ a1 = .inr (0, [.int mo, .ref ea, .int (nI n)]) := (k9_ a1 (zne hF1 hFa rfl)).trans hF1
    have kc12_ : ∀ b, b ≠ (ad k) → F4_ b = F b := fun b q0 => k9_ b q0
    refine z_stk (st' := []) rfl ?_
    refine z_aload_n C dX2_restore_27 rfl 0 rfl ?_
    refine z_callVN (As := []) (st := []) (mc := 0) (ms := 0) C hLa h8_ rfl (c_X0_taken l hlst G L F4_ (ad k) (fSg (fd k)) (fMw (fd k)) (fCr (fd k)) 0 (fHo (fd k)) (fTh (fd k)) (crV (fTh (fd k))) hLa h8_ (by omega) (by omega) (by omega)) ⟨va_cnB 0 C.1.2.2.2.2 gX2_restore_X0_taken_n112 rfl rfl rfl (z_nl (host := RX2) C (by decide +kernel)) (C.1.2.2.2.2 _ (show Cond.initialized RX0 ∈ _ from (by decide +kernel))) (by decide +kernel) ⟨Nat.le_of_ble_eq_true rfl, Nat.le_of_ble_eq_true rfl⟩, C.1.2.2.2.2 _ (show Cond.instanceMethod yX0_taken ∈ _ from (by decide +kernel)), C.1.2.2.2.2 _ (show Cond.selects RX0 yX0_taken yX0_taken ∈ _ from (by decide +kernel))⟩ rfl (Nat.le_of_ble_eq_true rfl) ⟨Nat.le_of_ble_eq_true rfl, Nat.le_of_ble_eq_true rfl⟩ dX2_restore_28 (z_p ?_)
    refine z_stk (st' := [.int (nI (tkV (fMw (fd k)) 0 (crV (fTh (fd k)))))]) rfl ?_
    refine z_iret C rfl rfl (by decide) (by decide) dX2_restore_31 ?_
    exact ⟨k, hlt, hxk, by omega, rfl, rfl, hco.one hlt (fOn_ok hOk) h8_ kc12_, fun b hb => kc12_ b (hco.apart hb k hlt)⟩
  · -- 10 not taken
    refine z_throw (cls := "java/lang/IllegalStateException") (text := "the feeder is not cut") (ik := 38) (is := 107) (ic := 42) C rfl (by decide +kernel) (by decide +kernel) (by decide +kernel) (by decide +kernel) ["java/lang/RuntimeException", "java/lang/Exception"] (by decide +kernel) (by decide +kernel) (by decide +kernel) (by decide +kernel) (by decide +kernel) dX2_restore_13 dX2_restore_16 dX2_restore_17 dX2_restore_19 dX2_restore_22 hout (Nat.le_of_ble_eq_true rfl) (Nat.le_of_ble_eq_true rfl) (Nat.le_of_ble_eq_true rfl) (Nat.le_of_ble_eq_true rfl) (Nat.le_of_ble_eq_true rfl) (Nat.le_of_ble_eq_true rfl) ?_
    exact ⟨rfl, rfl, Or.inr ⟨rfl, k, hlt, hxk, by omega⟩⟩

set_option maxRecDepth 100000 in
theorem hin_X2_swapFor_X2 : ∀ w ∈ u_ws RX2 TX2 4, w ∈ wsX2_swapFor := by decide +kernel
set_option maxHeartbeats 4000000 in
set_option maxRecDepth 100000 in
theorem c_X2_swapFor (l : Launch) (hlst : l.stackTraces = false) (G : zGt) (L : List Nat) (F : Nat → va_E) (M : Nat → Prop) (a0 a1 a2 b4 b5 b6 b7 : Nat) (ad : Nat → Nat) (n now sl : Nat) (fd : Nat → FdT) (hco : zCo G M L F a0 a1 a2 b4 b5 b6 b7 ad n now sl fd) (sb : Nat) (hsb : sb < 4096) : zM l yX2_swapFor wsX2_swapFor 10 154 0 0 G L F [.ref a0, .int (nI sb)] (fun rv L1 F1 => rv = some (.int (nI (smV (fun i => swT (fd i)) n))) ∧ L1 = L ∧ zCo G M L F1 a0 a1 a2 b4 b5 b6 b7 ad n now sl (fdK (fun i r => swG sb i r) fd n) ∧ ∀ b, M b → F1 b = F b) := by
  obtain ⟨⟨hL0, hL1, hL2, hL4, hL5, hL6, hL7⟩, hF0, ⟨mo, ea, nn, fe, hF1, hFe, hfe, hMe⟩, hSr, hNb, hFd, hIj, ⟨hn, hnow, hsl⟩, hM0, hM1, hM2, hM4, hM5, hM6, hM7⟩ := id hco
  refine z_of (cc := cX2_swapFor) (nL := 5) (ret := (some .int)) (own := RX2) hlst (by decide +kernel) rfl rfl (Nat.le_of_ble_eq_true rfl) ?_
  intro p e s m below meth c A hnm C
  refine z_lvs (lv' := [(0, .ref a0), (1, .int (nI sb))]) rfl ?_
  refine z_iconst C (nI 0) dX2_swapFor_0 (by decide) ?_
  refine z_istore_n (lv' := [(2, .int (nI 0)), (0, .ref a0), (1, .int (nI sb))]) C dX2_swapFor_1 rfl (by decide) rfl ?_
  refine z_iconst C (nI 0) dX2_swapFor_2 (by decide) ?_
  refine z_istore_n (lv' := [(3, .int (nI 0)), (2, .int (nI 0)), (0, .ref a0), (1, .int (nI sb))]) C dX2_swapFor_3 rfl (by decide) rfl ?_
  refine z_lvs (lv' := [(3, .int (nI 0)), (2, .int (nI (smV (fun i => swT (fd i)) 0))), (0, .ref a0), (1, .int (nI sb))]) rfl ?_
  refine z_sub (lv' := [(0, .ref a0), (1, .int (nI sb)), (2, .int (nI (smV (fun i => swT (fd i)) 0))), (3, .int (nI 0))]) [2, 3, 1, 0] rfl ?_
  have hcoA := hco
  rw [← fdK_0 (fun i r => swG sb i r) fd] at hcoA
  have lp4 : ∀ (N9 : Nat) (k : Nat) (F2 : Nat → va_E) (hk : k ≤ n) (hco2 : zCo G M L F2 a0 a1 a2 b4 b5 b6 b7 ad n now sl (fdK (fun i r => swG sb i r) fd k)) (hkM : ∀ b, M b → F2 b = F b) (h9 : n - k < N9), zW p l e { frames := 10, cells := 0, slots := 0, locals := 154 } s m [.ref a0, .int (nI sb)].toArray below meth c 5 G A (MQ below (zQ G (fun rv L1 F1 => rv = some (.int (nI (smV (fun i => swT (fd i)) n))) ∧ L1 = L ∧ zCo G M L F1 a0 a1 a2 b4 b5 b6 b7 ad n now sl (fdK (fun i r => swG sb i r) fd n) ∧ ∀ b, M b → F1 b = F b) A) [.ref a0, .int (nI sb)].toArray s 0 0 A) 0 0 L F2 4 [(0, .ref a0), (1, .int (nI sb)), (2, .int (nI (smV (fun i => swT (fd i)) k))), (3, .int (nI k))] [] := by
    intro N9
    induction N9 with
    | zero => intro k F2 hk hco2 hkM h9; exact absurd h9 (Nat.not_lt_zero _)
    | succ N9 ih4 =>
      intro k F2 hk hco2 hkM hN4
      refine z_iload_n C dX2_swapFor_4 rfl 3 rfl ?_
      obtain ⟨⟨hL0_2, hL1_2, hL2_2, hL4_2, hL5_2, hL6_2, hL7_2⟩, hF0_2, ⟨mo_2, ea_2, nn_2, fe_2, hF1_2, hFe_2, hfe_2, hMe_2⟩, hSr_2, hNb_2, hFd_2, hIj_2, ⟨hn_2, hnow_2, hsl_2⟩, hM0_2, hM1_2, hM2_2, hM4_2, hM5_2, hM6_2, hM7_2⟩ := id hco2
      have hbv := bitV_le sb k
      refine z_aload_n C dX2_swapFor_5 rfl 0 rfl ?_
      refine z_get (ref := "Shedwheel") (v := .ref a1) C hin_X2_swapFor_X2 hL0_2 hF0_2 rfl 0 (by decide) (by decide +kernel) (fun _ h9 => h9) rfl dX2_swapFor_6 ?_
      refine z_callV (As := []) (st := [.int (nI k)]) (mc := 0) (ms := 0) C hL1_2 hF1_2 rfl (c_Jx4a65c_size_8abf5 l hlst G L F2 a1 mo_2 ea_2 n hL1_2 hF1_2 ) (cwV 0 C.1.2.2.2.2 gX2_swapFor_Jx4a65c_size_8abf5 rfl rfl rfl (by decide +kernel) ⟨Nat.le_of_ble_eq_true rfl, Nat.le_of_ble_eq_true rfl⟩) rfl (Nat.le_of_ble_eq_true rfl) ⟨Nat.le_of_ble_eq_true rfl, Nat.le_of_ble_eq_true rfl⟩ dX2_swapFor_9 (z_p ?_)
      refine z_stk (st' := [.int (nI n), .int (nI k)]) rfl ?_
      refine z_icmp_ge C 67 (((n : Nat) : Int) ≤ ((k : Nat) : Int)) (zi_le (zi_N (n := n) (by omega)) (zi_N (n := k) (by omega))) dX2_swapFor_12 (by decide) (fun c1_ => ?_) (fun c1_ => ?_)
      · -- 12 taken
        refine z_iload_n C dX2_swapFor_67 rfl 2 rfl ?_
        refine z_iret0 C rfl rfl (by decide) (by decide) dX2_swapFor_68 ?_
        obtain rfl : n = k := by omega
        exact ⟨rfl, rfl, hco2, hkM⟩
      · -- 12 not taken
        refine z_aload_n C dX2_swapFor_15 rfl 0 rfl ?_
        refine z_get (ref := "Shedwheel") (v := .ref a1) C hin_X2_swapFor_X2 hL0_2 hF0_2 rfl 0 (by decide) (by decide +kernel) (fun _ h9 => h9) rfl dX2_swapFor_16 ?_
        refine z_iload_n C dX2_swapFor_19 rfl 3 rfl ?_
        have hlt : k < n := by omega
        obtain ⟨hLe_2, hGe_2, hnn_2, hcap_2⟩ : ea_2 ∈ L ∧ F2 ea_2 = .inl (G.2.2.1, nn_2, .inr (.inr (.inr (.inr fe_2)))) ∧ n ≤ nn_2 ∧ (nn_2 = 10 ∨ nn_2 = 15) := by
          rcases hFe_2 with ⟨h9, -⟩ | h9
          · omega
          · exact h9
        refine z_callV (As := [.int (nI k)]) (st := []) (mc := 0) (ms := 0) C hL1_2 hF1_2 rfl (c_Jx4a65c_get_915e3 l hlst G L F2 a1 mo_2 ea_2 n hL1_2 hF1_2 nn_2 k (ad k) fe_2 hLe_2 hGe_2 (by omega) (by omega) (hfe_2 k (by omega)) (by omega) (by omega)) (cwV 1 C.1.2.2.2.2 gX2_swapFor_Jx4a65c_get_915e3 rfl rfl rfl (by decide +kernel) ⟨Nat.le_of_ble_eq_true rfl, Nat.le_of_ble_eq_true rfl⟩) rfl (Nat.le_of_ble_eq_true rfl) ⟨Nat.le_of_ble_eq_true rfl, Nat.le_of_ble_eq_true rfl⟩ dX2_swapFor_20 (z_p ?_)
        refine z_stk (st' := [.ref ((ad k))]) rfl ?_
        have hLa := (hFd_2 k hlt).1
        have hFa : F2 (ad k) = fdE (fd k) := by
          have h9 := (hFd_2 k hlt).2.1
          rw [fdK_at] at h9
          exact h9
        have hOk : fOk now (fd k) := (hFd k hlt).2.2.1
        obtain ⟨u1, u2, u3, u4, u5, u6, u7, u8⟩ := id hOk
        refine z_castX0 C hLa hFa (by decide +kernel) dX2_swapFor_23 ?_
        refine z_astore (lv' := [(4, .ref ((ad k))), (0, .ref a0), (1, .int (nI sb)), (2, .int (nI (smV (fun i => swT (fd i)) k))), (3, .int (nI k))]) C dX2_swapFor_26 (by decide) rfl ?_
        refine z_aload C dX2_swapFor_28 0 rfl ?_
        refine z_callVN (As := []) (st := []) (mc := 0) (ms := 0) C hLa hFa rfl (c_X0_mayReturn l hlst G L F2 (ad k) (fSg (fd k)) (fMw (fd k)) (fCr (fd k)) (fOf (fd k)) (fHo (fd k)) (fTh (fd k)) (fCo (fd k)) hLa hFa (by omega) (by omega)) ⟨va_cnB 0 C.1.2.2.2.2 gX2_swapFor_X0_mayReturn_n156 rfl rfl rfl (z_nl (host := RX2) C (by decide +kernel)) (C.1.2.2.2.2 _ (show Cond.initialized RX0 ∈ _ from (by decide +kernel))) (by decide +kernel) ⟨Nat.le_of_ble_eq_true rfl, Nat.le_of_ble_eq_true rfl⟩, C.1.2.2.2.2 _ (show Cond.instanceMethod yX0_mayReturn ∈ _ from (by decide +kernel)), C.1.2.2.2.2 _ (show Cond.selects RX0 yX0_mayReturn yX0_mayReturn ∈ _ from (by decide +kernel))⟩ rfl (Nat.le_of_ble_eq_true rfl) ⟨Nat.le_of_ble_eq_true rfl, Nat.le_of_ble_eq_true rfl⟩ dX2_swapFor_30 (z_p ?_)
        refine z_stk (st' := [.int (nI (if fOf (fd k) = 1 ∧ fCr (fd k) = 0 then 1 else 0))]) rfl ?_
        refine z_if_eq C 47 (¬ (fOf (fd k) = 1 ∧ fCr (fd k) = 0)) (zif_iff) dX2_swapFor_33 (by decide) (fun c2_ => ?_) (fun c2_ => ?_)
        · -- 33 taken
          refine z_iload_n C dX2_swapFor_47 rfl 2 rfl ?_
          refine z_iload_n C dX2_swapFor_48 rfl 4 rfl ?_
          refine z_callS (As := [.int (nI sb), .int (nI k)]) (st := []) (mc := 0) (ms := 0) C (c_X2_holds l hlst G L F2 sb k (by omega) (by omega)) (va_cwS 2 C.1.2.2.2.2 gX2_swapFor_X2_holds rfl rfl rfl (by decide +kernel) ⟨Nat.le_of_ble_eq_true rfl, Nat.le_of_ble_eq_true rfl⟩) rfl (Nat.le_of_ble_eq_true rfl) ⟨Nat.le_of_ble_eq_true rfl, Nat.le_of_ble_eq_true rfl⟩ dX2_swapFor_49 (z_p ?_)
          refine z_stk (st' := [.int (nI (bitV sb k))]) rfl ?_
          refine z_if_eq C 61 (((bitV sb k : Nat) : Int) = (0 : Int)) (zi_eq (zi_N (n := bitV sb k) (by omega)) zi_0) dX2_swapFor_52 (by decide) (fun c3_ => ?_) (fun c3_ => ?_)
          · -- 52 taken
            refine z_iinc (v := nI (k + 1)) (lv' := [(3, .int (nI (k + 1))), (4, .ref ((ad k))), (0, .ref a0), (1, .int (nI sb)), (2, .int (nI (smV (fun i => swT (fd i)) k)))]) C dX2_swapFor_61 4 rfl (nI_add k 1) (by decide) rfl ?_
            refine z_goto C 4 dX2_swapFor_64 (by decide) ?_
            refine z_lvs (lv' := [(3, .int (nI (k + 1))), (4, .ref ((ad k))), (0, .ref a0), (1, .int (nI sb)), (2, .int (nI (smV (fun i => swT (fd i)) (k + 1))))]) (by rw [smV_s, show swT (fd k) = 0 from by rw [swT, if_neg (by omega)]]; rfl) ?_
            have hco3 := hco2
            rw [fdK_n (fun i r => swG sb i r) fd k (by show swG sb k (fd k) = fd k; rw [swG, if_neg (by omega), if_neg (by omega)])] at hco3
            refine z_sub (lv' := [(0, .ref a0), (1, .int (nI sb)), (2, .int (nI (smV (fun i => swT (fd i)) (k + 1)))), (3, .int (nI (k + 1)))]) [2, 3, 4, 0] rfl ?_
            exact ih4 (k + 1) F2 (by omega) hco3 hkM (by omega)
          · -- 52 not taken
            refine z_aload C dX2_swapFor_55 0 rfl ?_
            refine z_callVN (As := []) (st := []) (mc := 0) (ms := 0) C hLa hFa rfl (c_X0_switchOff l hlst G L F2 (ad k) (fSg (fd k)) (fMw (fd k)) (fCr (fd k)) (fOf (fd k)) (fHo (fd k)) (fTh (fd k)) (fCo (fd k)) hLa hFa (by omega) (by omega) (by omega)) ⟨va_cnB 0 C.1.2.2.2.2 gX2_swapFor_X0_switchOff_n86 rfl rfl rfl (z_nl (host := RX2) C (by decide +kernel)) (C.1.2.2.2.2 _ (show Cond.initialized RX0 ∈ _ from (by decide +kernel))) (by decide +kernel) ⟨Nat.le_of_ble_eq_true rfl, Nat.le_of_ble_eq_true rfl⟩, C.1.2.2.2.2 _ (show Cond.instanceMethod yX0_switchOff ∈ _ from (by decide +kernel)), C.1.2.2.2.2 _ (show Cond.selects RX0 yX0_switchOff yX0_switchOff ∈ _ from (by decide +kernel))⟩ rfl (Nat.le_of_ble_eq_true rfl) ⟨Nat.le_of_ble_eq_true rfl, Nat.le_of_ble_eq_true rfl⟩ dX2_swapFor_57 (fun rv4_ L5_ F6_ hp7_ => ?_)
            obtain ⟨e8_, e9_, h10_, k11_⟩ := hp7_
            rw [e8_, e9_]
            have h12_ : F6_ a0 = .inr (3, [.ref a1, .ref a2, .int (nI now), .int (nI sl)]) := (k11_ a0 (zne hF0_2 hFa rfl)).trans hF0_2
            have h13_ : F6_ a1 = .inr (0, [.int mo_2, .ref ea_2, .int (nI n)]) := (k11_ a1 (zne hF1_2 hFa rfl)).trans hF1_2
            have kc14_ : ∀ b, b ≠ (ad k) → F6_ b = F2 b := fun b q0 => k11_ b q0
            refine z_stk (st' := [.int (nI (tkV (fMw (fd k)) (fOf (fd k)) (fCo (fd k))))]) rfl ?_
            refine z_pop C dX2_swapFor_60 rfl ?_
            refine z_iinc (v := nI (k + 1)) (lv' := [(3, .int (nI (k + 1))), (4, .ref ((ad k))), (0, .ref a0), (1, .int (nI sb)), (2, .int (nI (smV (fun i => swT (fd i)) k)))]) C dX2_swapFor_61 4 rfl (nI_add k 1) (by decide) rfl ?_
            refine z_goto C 4 dX2_swapFor_64 (by decide) ?_
            refine z_lvs (lv' := [(3, .int (nI (k + 1))), (4, .ref ((ad k))), (0, .ref a0), (1, .int (nI sb)), (2, .int (nI (smV (fun i => swT (fd i)) (k + 1))))]) (by rw [smV_s, show swT (fd k) = 0 from by rw [swT, if_neg (by omega)]]; rfl) ?_
            have hco3 := hco2.one hlt (fOff_ok hOk) h10_ kc14_
            rw [fdK_s (fun i r => swG sb i r) fd k (by show swG sb k (fd k) = fOff (fd k); rw [swG, if_neg (by omega), if_pos (by omega)])] at hco3
            refine z_sub (lv' := [(0, .ref a0), (1, .int (nI sb)), (2, .int (nI (smV (fun i => swT (fd i)) (k + 1)))), (3, .int (nI (k + 1)))]) [2, 3, 4, 0] rfl ?_
            exact ih4 (k + 1) F6_ (by omega) hco3 (fun b hb => (kc14_ b (hco2.apart hb k hlt)).trans (hkM b hb)) (by omega)
        · -- 33 not taken
          refine z_aload C dX2_swapFor_36 0 rfl ?_
          refine z_callVN (As := []) (st := []) (mc := 0) (ms := 0) C hLa hFa rfl (c_X0_switchOn l hlst G L F2 (ad k) (fSg (fd k)) (fMw (fd k)) (fCr (fd k)) (fOf (fd k)) (fHo (fd k)) (fTh (fd k)) (fCo (fd k)) hLa hFa (by omega)) ⟨va_cnB 0 C.1.2.2.2.2 gX2_swapFor_X0_switchOn_n109 rfl rfl rfl (z_nl (host := RX2) C (by decide +kernel)) (C.1.2.2.2.2 _ (show Cond.initialized RX0 ∈ _ from (by decide +kernel))) (by decide +kernel) ⟨Nat.le_of_ble_eq_true rfl, Nat.le_of_ble_eq_true rfl⟩, C.1.2.2.2.2 _ (show Cond.instanceMethod yX0_switchOn ∈ _ from (by decide +kernel)), C.1.2.2.2.2 _ (show Cond.selects RX0 yX0_switchOn yX0_switchOn ∈ _ from (by decide +kernel))⟩ rfl (Nat.le_of_ble_eq_true rfl) ⟨Nat.le_of_ble_eq_true rfl, Nat.le_of_ble_eq_true rfl⟩ dX2_swapFor_38 (fun rv15_ L16_ F17_ hp18_ => ?_)
          obtain ⟨e19_, e20_, h21_, k22_⟩ := hp18_
          rw [e19_, e20_]
          have h23_ : F17_ a0 = .inr (3, [.ref a1, .ref a2, .int (nI now), .int (nI sl)]) := (k22_ a0 (zne hF0_2 hFa rfl)).trans hF0_2
          have h24_ : F17_ a1 = .inr (0, [.int mo_2, .ref ea_2, .int (nI n)]) := (k22_ a1 (zne hF1_2 hFa rfl)).trans hF1_2
          have kc25_ : ∀ b, b ≠ (ad k) → F17_ b = F2 b := fun b q0 => k22_ b q0
          refine z_stk (st' := []) rfl ?_
          refine z_iinc (v := nI (smV (fun i => swT (fd i)) k + 1)) (lv' := [(2, .int (nI (smV (fun i => swT (fd i)) k + 1))), (4, .ref ((ad k))), (0, .ref a0), (1, .int (nI sb)), (3, .int (nI k))]) C dX2_swapFor_41 3 rfl (nI_add (smV (fun i => swT (fd i)) k) 1) (by decide) rfl ?_
          refine z_goto C 61 dX2_swapFor_44 (by decide) ?_
          refine z_iinc (v := nI (k + 1)) (lv' := [(3, .int (nI (k + 1))), (2, .int (nI (smV (fun i => swT (fd i)) k + 1))), (4, .ref ((ad k))), (0, .ref a0), (1, .int (nI sb))]) C dX2_swapFor_61 4 rfl (nI_add k 1) (by decide) rfl ?_
          refine z_goto C 4 dX2_swapFor_64 (by decide) ?_
          refine z_lvs (lv' := [(3, .int (nI (k + 1))), (2, .int (nI (smV (fun i => swT (fd i)) (k + 1)))), (4, .ref ((ad k))), (0, .ref a0), (1, .int (nI sb))]) (by rw [smV_s, show swT (fd k) = 1 from by rw [swT, if_pos (by omega)]]) ?_
          have hco3 := hco2.one hlt (fOn_ok hOk) h21_ kc25_
          rw [fdK_s (fun i r => swG sb i r) fd k (by show swG sb k (fd k) = fOn (fd k); rw [swG, if_pos (by omega)])] at hco3
          refine z_sub (lv' := [(0, .ref a0), (1, .int (nI sb)), (2, .int (nI (smV (fun i => swT (fd i)) (k + 1)))), (3, .int (nI (k + 1)))]) [3, 4, 1, 0] rfl ?_
          exact ih4 (k + 1) F17_ (by omega) hco3 (fun b hb => (kc25_ b (hco2.apart hb k hlt)).trans (hkM b hb)) (by omega)
  exact lp4 _ 0 F (Nat.zero_le _) hcoA (fun _ _ => rfl) (Nat.lt_succ_self _)
