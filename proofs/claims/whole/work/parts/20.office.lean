set_option maxHeartbeats 4000000 in
set_option maxRecDepth 100000 in
theorem c_X2_requireWithin (l : Launch) (hlst : l.stackTraces = false) (G : zGt) (L : List Nat) (F : Nat → va_E) (v : Int32) (lo hi : Nat) (hlo : lo < 100000) (hhi : hi < 100000) : zX l yX2_requireWithin wsX2_requireWithin 7 90 1 6 G L F [.int v, .int (nI lo), .int (nI hi)] (fun rv L1 F1 => rv = none ∧ L1 = L ∧ F1 = F ∧ zIn lo hi v) (fun E L1 F1 => L1 = L ∧ F1 = F ∧ E = "java/lang/IllegalArgumentException" ∧ ¬ zIn lo hi v) := by
  refine z_ofX (cc := cX2_requireWithin) (nL := 3) (ret := none) (own := RX2) hlst (by decide +kernel) rfl rfl (Nat.le_of_ble_eq_true rfl) ?_
  intro p e s m below meth c A hout C
  refine z_lvs (lv' := [(0, .int v), (1, .int (nI lo)), (2, .int (nI hi))]) rfl ?_
  refine z_iload_n C dX2_requireWithin_0 rfl 0 rfl ?_
  refine z_iload_n C dX2_requireWithin_1 rfl 1 rfl ?_
  refine z_icmp_lt C 10 ((v).toInt < ((lo : Nat) : Int)) (zi_lt rfl (zi_N (n := lo) (by omega))) dX2_requireWithin_2 (by decide) (fun c1_ => ?_) (fun c1_ => ?_)
  · -- 2 taken
    refine z_throw (cls := "java/lang/IllegalArgumentException") (text := "out of range") (ik := 146) (is := 148) (ic := 150) C rfl (by decide +kernel) (by decide +kernel) (by decide +kernel) (by decide +kernel) ["java/lang/RuntimeException", "java/lang/Exception"] (by decide +kernel) (by decide +kernel) (by decide +kernel) (by decide +kernel) (by decide +kernel) dX2_requireWithin_10 dX2_requireWithin_13 dX2_requireWithin_14 dX2_requireWithin_16 dX2_requireWithin_19 hout (Nat.le_of_ble_eq_true rfl) (Nat.le_of_ble_eq_true rfl) (Nat.le_of_ble_eq_true rfl) (Nat.le_of_ble_eq_true rfl) (Nat.le_of_ble_eq_true rfl) (Nat.le_of_ble_eq_true rfl) ?_
    exact ⟨rfl, rfl, rfl, fun h9 => (by obtain ⟨g1, g2⟩ := h9; omega)⟩
  · -- 2 not taken
    refine z_iload_n C dX2_requireWithin_5 rfl 0 rfl ?_
    refine z_iload_n C dX2_requireWithin_6 rfl 2 rfl ?_
    refine z_icmp_le C 20 ((v).toInt ≤ ((hi : Nat) : Int)) (zi_le rfl (zi_N (n := hi) (by omega))) dX2_requireWithin_7 (by decide) (fun c2_ => ?_) (fun c2_ => ?_)
    · -- 7 taken
      refine z_vret C rfl (by decide) (by decide) dX2_requireWithin_20 ?_
      exact ⟨rfl, rfl, rfl, ⟨by omega, by omega⟩⟩
    · -- 7 not taken
      refine z_throw (cls := "java/lang/IllegalArgumentException") (text := "out of range") (ik := 146) (is := 148) (ic := 150) C rfl (by decide +kernel) (by decide +kernel) (by decide +kernel) (by decide +kernel) ["java/lang/RuntimeException", "java/lang/Exception"] (by decide +kernel) (by decide +kernel) (by decide +kernel) (by decide +kernel) (by decide +kernel) dX2_requireWithin_10 dX2_requireWithin_13 dX2_requireWithin_14 dX2_requireWithin_16 dX2_requireWithin_19 hout (Nat.le_of_ble_eq_true rfl) (Nat.le_of_ble_eq_true rfl) (Nat.le_of_ble_eq_true rfl) (Nat.le_of_ble_eq_true rfl) (Nat.le_of_ble_eq_true rfl) (Nat.le_of_ble_eq_true rfl) ?_
      exact ⟨rfl, rfl, rfl, fun h9 => (by obtain ⟨g1, g2⟩ := h9; omega)⟩

set_option maxRecDepth 100000 in
theorem hin_X2_feederOf_X2 : ∀ w ∈ u_ws RX2 TX2 4, w ∈ wsX2_feederOf := by decide +kernel
set_option maxHeartbeats 4000000 in
set_option maxRecDepth 100000 in
theorem c_X2_feederOf (l : Launch) (hlst : l.stackTraces = false) (G : zGt) (L : List Nat) (F : Nat → va_E) (M : Nat → Prop) (a0 a1 a2 b4 b5 b6 b7 : Nat) (ad : Nat → Nat) (n now sl : Nat) (fd : Nat → FdT) (hco : zCo G M L F a0 a1 a2 b4 b5 b6 b7 ad n now sl fd) (x : Int32) : zX l yX2_feederOf wsX2_feederOf 10 154 1 6 G L F [.ref a0, .int x] (fun rv L1 F1 => ∃ k : Nat, k < n ∧ x = nI k ∧ rv = some (.ref (ad k)) ∧ L1 = L ∧ F1 = F) (fun E L1 F1 => L1 = L ∧ F1 = F ∧ E = "java/lang/IndexOutOfBoundsException" ∧ ¬ zIx n x) := by
  obtain ⟨⟨hL0, hL1, hL2, hL4, hL5, hL6, hL7⟩, hF0, ⟨mo, ea, nn, fe, hF1, hFe, hfe, hMe⟩, hSr, hNb, hFd, hIj, ⟨hn, hnow, hsl⟩, hM0, hM1, hM2, hM4, hM5, hM6, hM7⟩ := id hco
  refine z_ofX (cc := cX2_feederOf) (nL := 2) (ret := (some (.object "Shedwheel$Feeder"))) (own := RX2) hlst (by decide +kernel) rfl rfl (Nat.le_of_ble_eq_true rfl) ?_
  intro p e s m below meth c A hout C
  refine z_lvs (lv' := [(0, .ref a0), (1, .int x)]) rfl ?_
  refine z_iload_n C dX2_feederOf_0 rfl 1 rfl ?_
  refine z_if_lt C 15 ((x).toInt < (0 : Int)) (zi_lt rfl zi_0) dX2_feederOf_1 (by decide) (fun c1_ => ?_) (fun c1_ => ?_)
  · -- 1 taken
    refine z_throw (cls := "java/lang/IndexOutOfBoundsException") (text := "no such feeder") (ik := 151) (is := 153) (ic := 155) C rfl (by decide +kernel) (by decide +kernel) (by decide +kernel) (by decide +kernel) ["java/lang/RuntimeException", "java/lang/Exception"] (by decide +kernel) (by decide +kernel) (by decide +kernel) (by decide +kernel) (by decide +kernel) dX2_feederOf_15 dX2_feederOf_18 dX2_feederOf_19 dX2_feederOf_21 dX2_feederOf_24 hout (Nat.le_of_ble_eq_true rfl) (Nat.le_of_ble_eq_true rfl) (Nat.le_of_ble_eq_true rfl) (Nat.le_of_ble_eq_true rfl) (Nat.le_of_ble_eq_true rfl) (Nat.le_of_ble_eq_true rfl) ?_
    exact ⟨rfl, rfl, rfl, fun h9 => (by obtain ⟨g1, g2⟩ := h9; omega)⟩
  · -- 1 not taken
    refine z_iload_n C dX2_feederOf_4 rfl 1 rfl ?_
    refine z_aload_n C dX2_feederOf_5 rfl 0 rfl ?_
    refine z_get (ref := "Shedwheel") (v := .ref a1) C hin_X2_feederOf_X2 hL0 hF0 rfl 0 (by decide) (by decide +kernel) (fun _ h9 => h9) rfl dX2_feederOf_6 ?_
    refine z_callV (As := []) (st := [.int x]) (mc := 0) (ms := 0) C hL1 hF1 rfl (c_Jx4a65c_size_8abf5 l hlst G L F a1 mo ea n hL1 hF1 ) (cwV 0 C.1.2.2.2.2 gX2_feederOf_Jx4a65c_size_8abf5 rfl rfl rfl (by decide +kernel) ⟨Nat.le_of_ble_eq_true rfl, Nat.le_of_ble_eq_true rfl⟩) rfl (Nat.le_of_ble_eq_true rfl) ⟨Nat.le_of_ble_eq_true rfl, Nat.le_of_ble_eq_true rfl⟩ dX2_feederOf_9 (z_p ?_)
    refine z_stk (st' := [.int (nI n), .int x]) rfl ?_
    refine z_icmp_lt C 25 ((x).toInt < ((n : Nat) : Int)) (zi_lt rfl (zi_N (n := n) (by omega))) dX2_feederOf_12 (by decide) (fun c2_ => ?_) (fun c2_ => ?_)
    · -- 12 taken
      obtain ⟨k, hxk, hkn⟩ := zIx_of (n := n) (v := x) ⟨by omega, by omega⟩
      refine z_lvs (lv' := [(0, .ref a0), (1, .int (nI k))]) (by rw [hxk]) ?_
      refine z_aload_n C dX2_feederOf_25 rfl 0 rfl ?_
      refine z_get (ref := "Shedwheel") (v := .ref a1) C hin_X2_feederOf_X2 hL0 hF0 rfl 0 (by decide) (by decide +kernel) (fun _ h9 => h9) rfl dX2_feederOf_26 ?_
      refine z_iload_n C dX2_feederOf_29 rfl 1 rfl ?_
      have hlt : k < n := by omega
      obtain ⟨hLe, hGe, hnn, hcap⟩ : ea ∈ L ∧ F ea = .inl (G.2.2.1, nn, .inr (.inr (.inr (.inr fe)))) ∧ n ≤ nn ∧ (nn = 10 ∨ nn = 15) := by
        rcases hFe with ⟨h9, -⟩ | h9
        · omega
        · exact h9
      refine z_callV (As := [.int (nI k)]) (st := []) (mc := 0) (ms := 0) C hL1 hF1 rfl (c_Jx4a65c_get_915e3 l hlst G L F a1 mo ea n hL1 hF1 nn k (ad k) fe hLe hGe (by omega) (by omega) (hfe k (by omega)) (by omega) (by omega)) (cwV 1 C.1.2.2.2.2 gX2_feederOf_Jx4a65c_get_915e3 rfl rfl rfl (by decide +kernel) ⟨Nat.le_of_ble_eq_true rfl, Nat.le_of_ble_eq_true rfl⟩) rfl (Nat.le_of_ble_eq_true rfl) ⟨Nat.le_of_ble_eq_true rfl, Nat.le_of_ble_eq_true rfl⟩ dX2_feederOf_30 (z_p ?_)
      refine z_stk (st' := [.ref ((ad k))]) rfl ?_
      have hLa := (hFd k hlt).1
      have hFa : F (ad k) = fdE (fd k) := (hFd k hlt).2.1
      have hOk : fOk now (fd k) := (hFd k hlt).2.2.1
      obtain ⟨u1, u2, u3, u4, u5, u6, u7, u8⟩ := id hOk
      refine z_castX0 C hLa hFa (by decide +kernel) dX2_feederOf_33 ?_
      refine z_aret C rfl (by first | exact Or.inl ⟨_, rfl⟩ | exact Or.inr ⟨_, rfl⟩) (by decide) (by decide) dX2_feederOf_36 ?_
      exact ⟨k, hkn, hxk, rfl, rfl, rfl⟩
    · -- 12 not taken
      refine z_throw (cls := "java/lang/IndexOutOfBoundsException") (text := "no such feeder") (ik := 151) (is := 153) (ic := 155) C rfl (by decide +kernel) (by decide +kernel) (by decide +kernel) (by decide +kernel) ["java/lang/RuntimeException", "java/lang/Exception"] (by decide +kernel) (by decide +kernel) (by decide +kernel) (by decide +kernel) (by decide +kernel) dX2_feederOf_15 dX2_feederOf_18 dX2_feederOf_19 dX2_feederOf_21 dX2_feederOf_24 hout (Nat.le_of_ble_eq_true rfl) (Nat.le_of_ble_eq_true rfl) (Nat.le_of_ble_eq_true rfl) (Nat.le_of_ble_eq_true rfl) (Nat.le_of_ble_eq_true rfl) (Nat.le_of_ble_eq_true rfl) ?_
      exact ⟨rfl, rfl, rfl, fun h9 => (by obtain ⟨g1, g2⟩ := h9; omega)⟩

set_option maxRecDepth 100000 in
theorem hin_X2_hour_X2 : ∀ w ∈ u_ws RX2 TX2 4, w ∈ wsX2_hour := by decide +kernel
set_option maxHeartbeats 4000000 in
set_option maxRecDepth 100000 in
theorem c_X2_hour (l : Launch) (hlst : l.stackTraces = false) (G : zGt) (L : List Nat) (F : Nat → va_E) (M : Nat → Prop) (a0 a1 a2 b4 b5 b6 b7 : Nat) (ad : Nat → Nat) (n now sl : Nat) (fd : Nat → FdT) (hco : zCo G M L F a0 a1 a2 b4 b5 b6 b7 ad n now sl fd)  : zM l yX2_hour wsX2_hour 1 24 0 0 G L F [.ref a0] (fun rv L1 F1 => rv = some (.int (nI now)) ∧ L1 = L ∧ F1 = F) := by
  obtain ⟨⟨hL0, hL1, hL2, hL4, hL5, hL6, hL7⟩, hF0, ⟨mo, ea, nn, fe, hF1, hFe, hfe, hMe⟩, hSr, hNb, hFd, hIj, ⟨hn, hnow, hsl⟩, hM0, hM1, hM2, hM4, hM5, hM6, hM7⟩ := id hco
  refine z_of (cc := cX2_hour) (nL := 1) (ret := (some .int)) (own := RX2) hlst (by decide +kernel) rfl rfl (Nat.le_of_ble_eq_true rfl) ?_
  intro p e s m below meth c A hnm C
  refine z_lvs (lv' := [(0, .ref a0)]) rfl ?_
  refine z_aload_n C dX2_hour_0 rfl 0 rfl ?_
  refine z_get (ref := "Shedwheel") (v := .int (nI now)) C hin_X2_hour_X2 hL0 hF0 rfl 2 (by decide) (by decide +kernel) (fun _ h9 => h9) rfl dX2_hour_1 ?_
  refine z_iret0 C rfl rfl (by decide) (by decide) dX2_hour_4 ?_
  exact ⟨rfl, rfl, rfl⟩

set_option maxRecDepth 100000 in
theorem hin_X2_feeders_X2 : ∀ w ∈ u_ws RX2 TX2 4, w ∈ wsX2_feeders := by decide +kernel
set_option maxHeartbeats 4000000 in
set_option maxRecDepth 100000 in
theorem c_X2_feeders (l : Launch) (hlst : l.stackTraces = false) (G : zGt) (L : List Nat) (F : Nat → va_E) (M : Nat → Prop) (a0 a1 a2 b4 b5 b6 b7 : Nat) (ad : Nat → Nat) (n now sl : Nat) (fd : Nat → FdT) (hco : zCo G M L F a0 a1 a2 b4 b5 b6 b7 ad n now sl fd)  : zM l yX2_feeders wsX2_feeders 2 44 0 0 G L F [.ref a0] (fun rv L1 F1 => rv = some (.int (nI n)) ∧ L1 = L ∧ F1 = F) := by
  obtain ⟨⟨hL0, hL1, hL2, hL4, hL5, hL6, hL7⟩, hF0, ⟨mo, ea, nn, fe, hF1, hFe, hfe, hMe⟩, hSr, hNb, hFd, hIj, ⟨hn, hnow, hsl⟩, hM0, hM1, hM2, hM4, hM5, hM6, hM7⟩ := id hco
  refine z_of (cc := cX2_feeders) (nL := 1) (ret := (some .int)) (own := RX2) hlst (by decide +kernel) rfl rfl (Nat.le_of_ble_eq_true rfl) ?_
  intro p e s m below meth c A hnm C
  refine z_lvs (lv' := [(0, .ref a0)]) rfl ?_
  refine z_aload_n C dX2_feeders_0 rfl 0 rfl ?_
  refine z_get (ref := "Shedwheel") (v := .ref a1) C hin_X2_feeders_X2 hL0 hF0 rfl 0 (by decide) (by decide +kernel) (fun _ h9 => h9) rfl dX2_feeders_1 ?_
  refine z_callV (As := []) (st := []) (mc := 0) (ms := 0) C hL1 hF1 rfl (c_Jx4a65c_size_8abf5 l hlst G L F a1 mo ea n hL1 hF1 ) (cwV 0 C.1.2.2.2.2 gX2_feeders_Jx4a65c_size_8abf5 rfl rfl rfl (by decide +kernel) ⟨Nat.le_of_ble_eq_true rfl, Nat.le_of_ble_eq_true rfl⟩) rfl (Nat.le_of_ble_eq_true rfl) ⟨Nat.le_of_ble_eq_true rfl, Nat.le_of_ble_eq_true rfl⟩ dX2_feeders_4 (z_p ?_)
  refine z_stk (st' := [.int (nI n)]) rfl ?_
  refine z_iret0 C rfl rfl (by decide) (by decide) dX2_feeders_7 ?_
  exact ⟨rfl, rfl, rfl⟩

set_option maxRecDepth 100000 in
theorem hin_X2_isCut_X0 : ∀ w ∈ u_ws RX0 TX0 7, w ∈ wsX2_isCut := by decide +kernel
set_option maxHeartbeats 4000000 in
set_option maxRecDepth 100000 in
theorem c_X2_isCut (l : Launch) (hlst : l.stackTraces = false) (G : zGt) (L : List Nat) (F : Nat → va_E) (M : Nat → Prop) (a0 a1 a2 b4 b5 b6 b7 : Nat) (ad : Nat → Nat) (n now sl : Nat) (fd : Nat → FdT) (hco : zCo G M L F a0 a1 a2 b4 b5 b6 b7 ad n now sl fd) (x : Int32) : zX l yX2_isCut wsX2_isCut 11 175 1 6 G L F [.ref a0, .int x] (fun rv L1 F1 => ∃ k : Nat, k < n ∧ x = nI k ∧ rv = some (.int (nI (fOf (fd k)))) ∧ L1 = L ∧ F1 = F) (fun E L1 F1 => L1 = L ∧ F1 = F ∧ E = "java/lang/IndexOutOfBoundsException" ∧ ¬ zIx n x) := by
  obtain ⟨⟨hL0, hL1, hL2, hL4, hL5, hL6, hL7⟩, hF0, ⟨mo, ea, nn, fe, hF1, hFe, hfe, hMe⟩, hSr, hNb, hFd, hIj, ⟨hn, hnow, hsl⟩, hM0, hM1, hM2, hM4, hM5, hM6, hM7⟩ := id hco
  refine z_ofX (cc := cX2_isCut) (nL := 2) (ret := (some .boolean)) (own := RX2) hlst (by decide +kernel) rfl rfl (Nat.le_of_ble_eq_true rfl) ?_
  intro p e s m below meth c A hout C
  refine z_lvs (lv' := [(0, .ref a0), (1, .int x)]) rfl ?_
  refine z_aload_n C dX2_isCut_0 rfl 0 rfl ?_
  refine z_iload_n C dX2_isCut_1 rfl 1 rfl ?_
  refine z_callVX (As := [.int x]) (st := []) (mc := 1) (ms := 6) C hL0 hF0 rfl (c_X2_feederOf l hlst G L F M a0 a1 a2 b4 b5 b6 b7 ad n now sl fd hco x) (cwV 1 C.1.2.2.2.2 gX2_isCut_X2_feederOf rfl rfl rfl (by decide +kernel) ⟨Nat.le_of_ble_eq_true rfl, Nat.le_of_ble_eq_true rfl⟩) rfl (Nat.le_of_ble_eq_true rfl) ⟨Nat.le_of_ble_eq_true rfl, Nat.le_of_ble_eq_true rfl⟩ dX2_isCut_2 (z_xo C hout (Nat.le_of_ble_eq_true rfl) (Nat.le_of_ble_eq_true rfl) (fun E9 L9 F9 hx => ⟨hx.1, hx.2.1, hx.2.2⟩)) (fun rv9 L9 F9 hp9 => ?_)
  obtain ⟨k, hlt, hxk, e91, e92, e93⟩ := hp9
  rw [e91, e92, e93]
  refine z_stk (st' := [.ref ((ad k))]) rfl ?_
  have hLa := (hFd k hlt).1
  have hFa : F (ad k) = fdE (fd k) := (hFd k hlt).2.1
  have hOk : fOk now (fd k) := (hFd k hlt).2.2.1
  obtain ⟨u1, u2, u3, u4, u5, u6, u7, u8⟩ := id hOk
  refine z_getN (host := RX2) (ref := "Shedwheel$Feeder") (v := .int (nI (fOf (fd k)))) C hin_X2_isCut_X0 hLa hFa rfl 3 (by decide) (by decide +kernel) (fun _ h9 => h9) rfl dX2_isCut_5 ?_
  refine z_iret C rfl (zb_n (b := fOf (fd k)) (by omega)) (by decide) (by decide) dX2_isCut_8 ?_
  exact ⟨k, hlt, hxk, rfl, rfl, rfl⟩

set_option maxHeartbeats 4000000 in
set_option maxRecDepth 100000 in
theorem c_X2_takes (l : Launch) (hlst : l.stackTraces = false) (G : zGt) (L : List Nat) (F : Nat → va_E) (M : Nat → Prop) (a0 a1 a2 b4 b5 b6 b7 : Nat) (ad : Nat → Nat) (n now sl : Nat) (fd : Nat → FdT) (hco : zCo G M L F a0 a1 a2 b4 b5 b6 b7 ad n now sl fd) (x : Int32) : zX l yX2_takes wsX2_takes 11 175 1 6 G L F [.ref a0, .int x] (fun rv L1 F1 => ∃ k : Nat, k < n ∧ x = nI k ∧ rv = some (.int (nI (fTk (fd k)))) ∧ L1 = L ∧ F1 = F) (fun E L1 F1 => L1 = L ∧ F1 = F ∧ E = "java/lang/IndexOutOfBoundsException" ∧ ¬ zIx n x) := by
  obtain ⟨⟨hL0, hL1, hL2, hL4, hL5, hL6, hL7⟩, hF0, ⟨mo, ea, nn, fe, hF1, hFe, hfe, hMe⟩, hSr, hNb, hFd, hIj, ⟨hn, hnow, hsl⟩, hM0, hM1, hM2, hM4, hM5, hM6, hM7⟩ := id hco
  refine z_ofX (cc := cX2_takes) (nL := 2) (ret := (some .int)) (own := RX2) hlst (by decide +kernel) rfl rfl (Nat.le_of_ble_eq_true rfl) ?_
  intro p e s m below meth c A hout C
  refine z_lvs (lv' := [(0, .ref a0), (1, .int x)]) rfl ?_
  refine z_aload_n C dX2_takes_0 rfl 0 rfl ?_
  refine z_iload_n C dX2_takes_1 rfl 1 rfl ?_
  refine z_callVX (As := [.int x]) (st := []) (mc := 1) (ms := 6) C hL0 hF0 rfl (c_X2_feederOf l hlst G L F M a0 a1 a2 b4 b5 b6 b7 ad n now sl fd hco x) (cwV 1 C.1.2.2.2.2 gX2_takes_X2_feederOf rfl rfl rfl (by decide +kernel) ⟨Nat.le_of_ble_eq_true rfl, Nat.le_of_ble_eq_true rfl⟩) rfl (Nat.le_of_ble_eq_true rfl) ⟨Nat.le_of_ble_eq_true rfl, Nat.le_of_ble_eq_true rfl⟩ dX2_takes_2 (z_xo C hout (Nat.le_of_ble_eq_true rfl) (Nat.le_of_ble_eq_true rfl) (fun E9 L9 F9 hx => ⟨hx.1, hx.2.1, hx.2.2⟩)) (fun rv9 L9 F9 hp9 => ?_)
  obtain ⟨k, hlt, hxk, e91, e92, e93⟩ := hp9
  rw [e91, e92, e93]
  refine z_stk (st' := [.ref ((ad k))]) rfl ?_
  have hLa := (hFd k hlt).1
  have hFa : F (ad k) = fdE (fd k) := (hFd k hlt).2.1
  have hOk : fOk now (fd k) := (hFd k hlt).2.2.1
  obtain ⟨u1, u2, u3, u4, u5, u6, u7, u8⟩ := id hOk
  refine z_callVN (As := []) (st := []) (mc := 0) (ms := 0) C hLa hFa rfl (c_X0_taken l hlst G L F (ad k) (fSg (fd k)) (fMw (fd k)) (fCr (fd k)) (fOf (fd k)) (fHo (fd k)) (fTh (fd k)) (fCo (fd k)) hLa hFa (by omega) (by omega) (by omega)) ⟨va_cnB 0 C.1.2.2.2.2 gX2_takes_X0_taken_n112 rfl rfl rfl (z_nl (host := RX2) C (by decide +kernel)) (C.1.2.2.2.2 _ (show Cond.initialized RX0 ∈ _ from (by decide +kernel))) (by decide +kernel) ⟨Nat.le_of_ble_eq_true rfl, Nat.le_of_ble_eq_true rfl⟩, C.1.2.2.2.2 _ (show Cond.instanceMethod yX0_taken ∈ _ from (by decide +kernel)), C.1.2.2.2.2 _ (show Cond.selects RX0 yX0_taken yX0_taken ∈ _ from (by decide +kernel))⟩ rfl (Nat.le_of_ble_eq_true rfl) ⟨Nat.le_of_ble_eq_true rfl, Nat.le_of_ble_eq_true rfl⟩ dX2_takes_5 (z_p ?_)
  refine z_stk (st' := [.int (nI (tkV (fMw (fd k)) (fOf (fd k)) (fCo (fd k))))]) rfl ?_
  refine z_iret C rfl rfl (by decide) (by decide) dX2_takes_8 ?_
  exact ⟨k, hlt, hxk, rfl, rfl, rfl⟩

set_option maxRecDepth 100000 in
theorem hin_X2_cold_X0 : ∀ w ∈ u_ws RX0 TX0 7, w ∈ wsX2_cold := by decide +kernel
set_option maxHeartbeats 4000000 in
set_option maxRecDepth 100000 in
theorem c_X2_cold (l : Launch) (hlst : l.stackTraces = false) (G : zGt) (L : List Nat) (F : Nat → va_E) (M : Nat → Prop) (a0 a1 a2 b4 b5 b6 b7 : Nat) (ad : Nat → Nat) (n now sl : Nat) (fd : Nat → FdT) (hco : zCo G M L F a0 a1 a2 b4 b5 b6 b7 ad n now sl fd) (x : Int32) : zX l yX2_cold wsX2_cold 11 175 1 6 G L F [.ref a0, .int x] (fun rv L1 F1 => ∃ k : Nat, k < n ∧ x = nI k ∧ rv = some (.int (nI (fCo (fd k)))) ∧ L1 = L ∧ F1 = F) (fun E L1 F1 => L1 = L ∧ F1 = F ∧ E = "java/lang/IndexOutOfBoundsException" ∧ ¬ zIx n x) := by
  obtain ⟨⟨hL0, hL1, hL2, hL4, hL5, hL6, hL7⟩, hF0, ⟨mo, ea, nn, fe, hF1, hFe, hfe, hMe⟩, hSr, hNb, hFd, hIj, ⟨hn, hnow, hsl⟩, hM0, hM1, hM2, hM4, hM5, hM6, hM7⟩ := id hco
  refine z_ofX (cc := cX2_cold) (nL := 2) (ret := (some .int)) (own := RX2) hlst (by decide +kernel) rfl rfl (Nat.le_of_ble_eq_true rfl) ?_
  intro p e s m below meth c A hout C
  refine z_lvs (lv' := [(0, .ref a0), (1, .int x)]) rfl ?_
  refine z_aload_n C dX2_cold_0 rfl 0 rfl ?_
  refine z_iload_n C dX2_cold_1 rfl 1 rfl ?_
  refine z_callVX (As := [.int x]) (st := []) (mc := 1) (ms := 6) C hL0 hF0 rfl (c_X2_feederOf l hlst G L F M a0 a1 a2 b4 b5 b6 b7 ad n now sl fd hco x) (cwV 1 C.1.2.2.2.2 gX2_cold_X2_feederOf rfl rfl rfl (by decide +kernel) ⟨Nat.le_of_ble_eq_true rfl, Nat.le_of_ble_eq_true rfl⟩) rfl (Nat.le_of_ble_eq_true rfl) ⟨Nat.le_of_ble_eq_true rfl, Nat.le_of_ble_eq_true rfl⟩ dX2_cold_2 (z_xo C hout (Nat.le_of_ble_eq_true rfl) (Nat.le_of_ble_eq_true rfl) (fun E9 L9 F9 hx => ⟨hx.1, hx.2.1, hx.2.2⟩)) (fun rv9 L9 F9 hp9 => ?_)
  obtain ⟨k, hlt, hxk, e91, e92, e93⟩ := hp9
  rw [e91, e92, e93]
  refine z_stk (st' := [.ref ((ad k))]) rfl ?_
  have hLa := (hFd k hlt).1
  have hFa : F (ad k) = fdE (fd k) := (hFd k hlt).2.1
  have hOk : fOk now (fd k) := (hFd k hlt).2.2.1
  obtain ⟨u1, u2, u3, u4, u5, u6, u7, u8⟩ := id hOk
  refine z_getN (host := RX2) (ref := "Shedwheel$Feeder") (v := .int (nI (fCo (fd k)))) C hin_X2_cold_X0 hLa hFa rfl 6 (by decide) (by decide +kernel) (fun _ h9 => h9) rfl dX2_cold_5 ?_
  refine z_iret C rfl rfl (by decide) (by decide) dX2_cold_8 ?_
  exact ⟨k, hlt, hxk, rfl, rfl, rfl⟩

set_option maxRecDepth 100000 in
theorem hin_X2_hours_X0 : ∀ w ∈ u_ws RX0 TX0 7, w ∈ wsX2_hours := by decide +kernel
set_option maxHeartbeats 4000000 in
set_option maxRecDepth 100000 in
theorem c_X2_hours (l : Launch) (hlst : l.stackTraces = false) (G : zGt) (L : List Nat) (F : Nat → va_E) (M : Nat → Prop) (a0 a1 a2 b4 b5 b6 b7 : Nat) (ad : Nat → Nat) (n now sl : Nat) (fd : Nat → FdT) (hco : zCo G M L F a0 a1 a2 b4 b5 b6 b7 ad n now sl fd) (x : Int32) : zX l yX2_hours wsX2_hours 11 175 1 6 G L F [.ref a0, .int x] (fun rv L1 F1 => ∃ k : Nat, k < n ∧ x = nI k ∧ rv = some (.int (nI (fHo (fd k)))) ∧ L1 = L ∧ F1 = F) (fun E L1 F1 => L1 = L ∧ F1 = F ∧ E = "java/lang/IndexOutOfBoundsException" ∧ ¬ zIx n x) := by
  obtain ⟨⟨hL0, hL1, hL2, hL4, hL5, hL6, hL7⟩, hF0, ⟨mo, ea, nn, fe, hF1, hFe, hfe, hMe⟩, hSr, hNb, hFd, hIj, ⟨hn, hnow, hsl⟩, hM0, hM1, hM2, hM4, hM5, hM6, hM7⟩ := id hco
  refine z_ofX (cc := cX2_hours) (nL := 2) (ret := (some .int)) (own := RX2) hlst (by decide +kernel) rfl rfl (Nat.le_of_ble_eq_true rfl) ?_
  intro p e s m below meth c A hout C
  refine z_lvs (lv' := [(0, .ref a0), (1, .int x)]) rfl ?_
  refine z_aload_n C dX2_hours_0 rfl 0 rfl ?_
  refine z_iload_n C dX2_hours_1 rfl 1 rfl ?_
  refine z_callVX (As := [.int x]) (st := []) (mc := 1) (ms := 6) C hL0 hF0 rfl (c_X2_feederOf l hlst G L F M a0 a1 a2 b4 b5 b6 b7 ad n now sl fd hco x) (cwV 1 C.1.2.2.2.2 gX2_hours_X2_feederOf rfl rfl rfl (by decide +kernel) ⟨Nat.le_of_ble_eq_true rfl, Nat.le_of_ble_eq_true rfl⟩) rfl (Nat.le_of_ble_eq_true rfl) ⟨Nat.le_of_ble_eq_true rfl, Nat.le_of_ble_eq_true rfl⟩ dX2_hours_2 (z_xo C hout (Nat.le_of_ble_eq_true rfl) (Nat.le_of_ble_eq_true rfl) (fun E9 L9 F9 hx => ⟨hx.1, hx.2.1, hx.2.2⟩)) (fun rv9 L9 F9 hp9 => ?_)
  obtain ⟨k, hlt, hxk, e91, e92, e93⟩ := hp9
  rw [e91, e92, e93]
  refine z_stk (st' := [.ref ((ad k))]) rfl ?_
  have hLa := (hFd k hlt).1
  have hFa : F (ad k) = fdE (fd k) := (hFd k hlt).2.1
  have hOk : fOk now (fd k) := (hFd k hlt).2.2.1
  obtain ⟨u1, u2, u3, u4, u5, u6, u7, u8⟩ := id hOk
  refine z_getN (host := RX2) (ref := "Shedwheel$Feeder") (v := .int (nI (fHo (fd k)))) C hin_X2_hours_X0 hLa hFa rfl 4 (by decide) (by decide +kernel) (fun _ h9 => h9) rfl dX2_hours_5 ?_
  refine z_iret C rfl rfl (by decide) (by decide) dX2_hours_8 ?_
  exact ⟨k, hlt, hxk, rfl, rfl, rfl⟩

set_option maxRecDepth 100000 in
theorem hin_X2_load_X2 : ∀ w ∈ u_ws RX2 TX2 4, w ∈ wsX2_load := by decide +kernel
set_option maxHeartbeats 4000000 in
set_option maxRecDepth 100000 in
theorem c_X2_load (l : Launch) (hlst : l.stackTraces = false) (G : zGt) (L : List Nat) (F : Nat → va_E) (M : Nat → Prop) (a0 a1 a2 b4 b5 b6 b7 : Nat) (ad : Nat → Nat) (n now sl : Nat) (fd : Nat → FdT) (hco : zCo G M L F a0 a1 a2 b4 b5 b6 b7 ad n now sl fd)  : zM l yX2_load wsX2_load 10 154 0 0 G L F [.ref a0] (fun rv L1 F1 => rv = some (.int (nI (smV (fun j => fTk (fd j)) n))) ∧ L1 = L ∧ F1 = F) := by
  obtain ⟨⟨hL0, hL1, hL2, hL4, hL5, hL6, hL7⟩, hF0, ⟨mo, ea, nn, fe, hF1, hFe, hfe, hMe⟩, hSr, hNb, hFd, hIj, ⟨hn, hnow, hsl⟩, hM0, hM1, hM2, hM4, hM5, hM6, hM7⟩ := id hco
  refine z_of (cc := cX2_load) (nL := 3) (ret := (some .int)) (own := RX2) hlst (by decide +kernel) rfl rfl (Nat.le_of_ble_eq_true rfl) ?_
  intro p e s m below meth c A hnm C
  refine z_lvs (lv' := [(0, .ref a0)]) rfl ?_
  refine z_iconst C (nI 0) dX2_load_0 (by decide) ?_
  refine z_istore_n (lv' := [(1, .int (nI 0)), (0, .ref a0)]) C dX2_load_1 rfl (by decide) rfl ?_
  refine z_iconst C (nI 0) dX2_load_2 (by decide) ?_
  refine z_istore_n (lv' := [(2, .int (nI 0)), (1, .int (nI 0)), (0, .ref a0)]) C dX2_load_3 rfl (by decide) rfl ?_
  refine z_lvs (lv' := [(2, .int (nI 0)), (1, .int (nI (smV (fun j => fTk (fd j)) 0))), (0, .ref a0)]) rfl ?_
  refine z_sub (lv' := [(0, .ref a0), (1, .int (nI (smV (fun j => fTk (fd j)) 0))), (2, .int (nI 0))]) [2, 1, 0] rfl ?_
  have lp4 : ∀ (N9 : Nat) (k : Nat) (hk : k ≤ n) (h9 : n - k < N9), zW p l e { frames := 10, cells := 0, slots := 0, locals := 154 } s m [.ref a0].toArray below meth c 3 G A (MQ below (zQ G (fun rv L1 F1 => rv = some (.int (nI (smV (fun j => fTk (fd j)) n))) ∧ L1 = L ∧ F1 = F) A) [.ref a0].toArray s 0 0 A) 0 0 L F 4 [(0, .ref a0), (1, .int (nI (smV (fun j => fTk (fd j)) k))), (2, .int (nI k))] [] := by
    intro N9
    induction N9 with
    | zero => intro k hk h9; exact absurd h9 (Nat.not_lt_zero _)
    | succ N9 ih4 =>
      intro k hk hN4
      refine z_iload_n C dX2_load_4 rfl 2 rfl ?_
      refine z_aload_n C dX2_load_5 rfl 0 rfl ?_
      refine z_get (ref := "Shedwheel") (v := .ref a1) C hin_X2_load_X2 hL0 hF0 rfl 0 (by decide) (by decide +kernel) (fun _ h9 => h9) rfl dX2_load_6 ?_
      refine z_callV (As := []) (st := [.int (nI k)]) (mc := 0) (ms := 0) C hL1 hF1 rfl (c_Jx4a65c_size_8abf5 l hlst G L F a1 mo ea n hL1 hF1 ) (cwV 0 C.1.2.2.2.2 gX2_load_Jx4a65c_size_8abf5 rfl rfl rfl (by decide +kernel) ⟨Nat.le_of_ble_eq_true rfl, Nat.le_of_ble_eq_true rfl⟩) rfl (Nat.le_of_ble_eq_true rfl) ⟨Nat.le_of_ble_eq_true rfl, Nat.le_of_ble_eq_true rfl⟩ dX2_load_9 (z_p ?_)
      refine z_stk (st' := [.int (nI n), .int (nI k)]) rfl ?_
      refine z_icmp_ge C 38 (((n : Nat) : Int) ≤ ((k : Nat) : Int)) (zi_le (zi_N (n := n) (by omega)) (zi_N (n := k) (by omega))) dX2_load_12 (by decide) (fun c1_ => ?_) (fun c1_ => ?_)
      · -- 12 taken
        refine z_iload_n C dX2_load_38 rfl 1 rfl ?_
        refine z_iret0 C rfl rfl (by decide) (by decide) dX2_load_39 ?_
        obtain rfl : n = k := by omega
        exact ⟨rfl, rfl, rfl⟩
      · -- 12 not taken
        refine z_iload_n C dX2_load_15 rfl 1 rfl ?_
        refine z_aload_n C dX2_load_16 rfl 0 rfl ?_
        refine z_get (ref := "Shedwheel") (v := .ref a1) C hin_X2_load_X2 hL0 hF0 rfl 0 (by decide) (by decide +kernel) (fun _ h9 => h9) rfl dX2_load_17 ?_
        refine z_iload_n C dX2_load_20 rfl 2 rfl ?_
        have hlt : k < n := by omega
        obtain ⟨hLe, hGe, hnn, hcap⟩ : ea ∈ L ∧ F ea = .inl (G.2.2.1, nn, .inr (.inr (.inr (.inr fe)))) ∧ n ≤ nn ∧ (nn = 10 ∨ nn = 15) := by
          rcases hFe with ⟨h9, -⟩ | h9
          · omega
          · exact h9
        refine z_callV (As := [.int (nI k)]) (st := [.int (nI (smV (fun j => fTk (fd j)) k))]) (mc := 0) (ms := 0) C hL1 hF1 rfl (c_Jx4a65c_get_915e3 l hlst G L F a1 mo ea n hL1 hF1 nn k (ad k) fe hLe hGe (by omega) (by omega) (hfe k (by omega)) (by omega) (by omega)) (cwV 1 C.1.2.2.2.2 gX2_load_Jx4a65c_get_915e3 rfl rfl rfl (by decide +kernel) ⟨Nat.le_of_ble_eq_true rfl, Nat.le_of_ble_eq_true rfl⟩) rfl (Nat.le_of_ble_eq_true rfl) ⟨Nat.le_of_ble_eq_true rfl, Nat.le_of_ble_eq_true rfl⟩ dX2_load_21 (z_p ?_)
        refine z_stk (st' := [.ref ((ad k)), .int (nI (smV (fun j => fTk (fd j)) k))]) rfl ?_
        have hLa := (hFd k hlt).1
        have hFa : F (ad k) = fdE (fd k) := (hFd k hlt).2.1
        have hOk : fOk now (fd k) := (hFd k hlt).2.2.1
        obtain ⟨u1, u2, u3, u4, u5, u6, u7, u8⟩ := id hOk
        refine z_castX0 C hLa hFa (by decide +kernel) dX2_load_24 ?_
        refine z_callVN (As := []) (st := [.int (nI (smV (fun j => fTk (fd j)) k))]) (mc := 0) (ms := 0) C hLa hFa rfl (c_X0_taken l hlst G L F (ad k) (fSg (fd k)) (fMw (fd k)) (fCr (fd k)) (fOf (fd k)) (fHo (fd k)) (fTh (fd k)) (fCo (fd k)) hLa hFa (by omega) (by omega) (by omega)) ⟨va_cnB 0 C.1.2.2.2.2 gX2_load_X0_taken_n112 rfl rfl rfl (z_nl (host := RX2) C (by decide +kernel)) (C.1.2.2.2.2 _ (show Cond.initialized RX0 ∈ _ from (by decide +kernel))) (by decide +kernel) ⟨Nat.le_of_ble_eq_true rfl, Nat.le_of_ble_eq_true rfl⟩, C.1.2.2.2.2 _ (show Cond.instanceMethod yX0_taken ∈ _ from (by decide +kernel)), C.1.2.2.2.2 _ (show Cond.selects RX0 yX0_taken yX0_taken ∈ _ from (by decide +kernel))⟩ rfl (Nat.le_of_ble_eq_true rfl) ⟨Nat.le_of_ble_eq_true rfl, Nat.le_of_ble_eq_true rfl⟩ dX2_load_27 (z_p ?_)
        refine z_stk (st' := [.int (nI (tkV (fMw (fd k)) (fOf (fd k)) (fCo (fd k)))), .int (nI (smV (fun j => fTk (fd j)) k))]) rfl ?_
        refine z_iadd C (nI (smV (fun j => fTk (fd j)) k + tkV (fMw (fd k)) (fOf (fd k)) (fCo (fd k)))) dX2_load_30 (nI_add (smV (fun j => fTk (fd j)) k) (tkV (fMw (fd k)) (fOf (fd k)) (fCo (fd k)))) ?_
        refine z_istore_n (lv' := [(1, .int (nI (smV (fun j => fTk (fd j)) k + tkV (fMw (fd k)) (fOf (fd k)) (fCo (fd k))))), (0, .ref a0), (2, .int (nI k))]) C dX2_load_31 rfl (by decide) rfl ?_
        refine z_iinc (v := nI (k + 1)) (lv' := [(2, .int (nI (k + 1))), (1, .int (nI (smV (fun j => fTk (fd j)) k + tkV (fMw (fd k)) (fOf (fd k)) (fCo (fd k))))), (0, .ref a0)]) C dX2_load_32 2 rfl (nI_add k 1) (by decide) rfl ?_
        refine z_goto C 4 dX2_load_35 (by decide) ?_
        refine z_lvs (lv' := [(2, .int (nI (k + 1))), (1, .int (nI (smV (fun j => fTk (fd j)) (k + 1)))), (0, .ref a0)]) rfl ?_
        refine z_sub (lv' := [(0, .ref a0), (1, .int (nI (smV (fun j => fTk (fd j)) (k + 1)))), (2, .int (nI (k + 1)))]) [2, 1, 0] rfl ?_
        exact ih4 (k + 1) (by omega) (by omega)
  exact lp4 _ 0 (Nat.zero_le _) (Nat.lt_succ_self _)

set_option maxRecDepth 100000 in
theorem hin_X2_loadRestored_X2 : ∀ w ∈ u_ws RX2 TX2 4, w ∈ wsX2_loadRestored := by decide +kernel
set_option maxHeartbeats 4000000 in
set_option maxRecDepth 100000 in
theorem c_X2_loadRestored (l : Launch) (hlst : l.stackTraces = false) (G : zGt) (L : List Nat) (F : Nat → va_E) (M : Nat → Prop) (a0 a1 a2 b4 b5 b6 b7 : Nat) (ad : Nat → Nat) (n now sl : Nat) (fd : Nat → FdT) (hco : zCo G M L F a0 a1 a2 b4 b5 b6 b7 ad n now sl fd)  : zM l yX2_loadRestored wsX2_loadRestored 10 154 0 0 G L F [.ref a0] (fun rv L1 F1 => rv = some (.int (nI (smV (fun j => fRs (fd j)) n))) ∧ L1 = L ∧ F1 = F) := by
  obtain ⟨⟨hL0, hL1, hL2, hL4, hL5, hL6, hL7⟩, hF0, ⟨mo, ea, nn, fe, hF1, hFe, hfe, hMe⟩, hSr, hNb, hFd, hIj, ⟨hn, hnow, hsl⟩, hM0, hM1, hM2, hM4, hM5, hM6, hM7⟩ := id hco
  refine z_of (cc := cX2_loadRestored) (nL := 3) (ret := (some .int)) (own := RX2) hlst (by decide +kernel) rfl rfl (Nat.le_of_ble_eq_true rfl) ?_
  intro p e s m below meth c A hnm C
  refine z_lvs (lv' := [(0, .ref a0)]) rfl ?_
  refine z_iconst C (nI 0) dX2_loadRestored_0 (by decide) ?_
  refine z_istore_n (lv' := [(1, .int (nI 0)), (0, .ref a0)]) C dX2_loadRestored_1 rfl (by decide) rfl ?_
  refine z_iconst C (nI 0) dX2_loadRestored_2 (by decide) ?_
  refine z_istore_n (lv' := [(2, .int (nI 0)), (1, .int (nI 0)), (0, .ref a0)]) C dX2_loadRestored_3 rfl (by decide) rfl ?_
  refine z_lvs (lv' := [(2, .int (nI 0)), (1, .int (nI (smV (fun j => fRs (fd j)) 0))), (0, .ref a0)]) rfl ?_
  refine z_sub (lv' := [(0, .ref a0), (1, .int (nI (smV (fun j => fRs (fd j)) 0))), (2, .int (nI 0))]) [2, 1, 0] rfl ?_
  have lp4 : ∀ (N9 : Nat) (k : Nat) (hk : k ≤ n) (h9 : n - k < N9), zW p l e { frames := 10, cells := 0, slots := 0, locals := 154 } s m [.ref a0].toArray below meth c 3 G A (MQ below (zQ G (fun rv L1 F1 => rv = some (.int (nI (smV (fun j => fRs (fd j)) n))) ∧ L1 = L ∧ F1 = F) A) [.ref a0].toArray s 0 0 A) 0 0 L F 4 [(0, .ref a0), (1, .int (nI (smV (fun j => fRs (fd j)) k))), (2, .int (nI k))] [] := by
    intro N9
    induction N9 with
    | zero => intro k hk h9; exact absurd h9 (Nat.not_lt_zero _)
    | succ N9 ih4 =>
      intro k hk hN4
      refine z_iload_n C dX2_loadRestored_4 rfl 2 rfl ?_
      refine z_aload_n C dX2_loadRestored_5 rfl 0 rfl ?_
      refine z_get (ref := "Shedwheel") (v := .ref a1) C hin_X2_loadRestored_X2 hL0 hF0 rfl 0 (by decide) (by decide +kernel) (fun _ h9 => h9) rfl dX2_loadRestored_6 ?_
      refine z_callV (As := []) (st := [.int (nI k)]) (mc := 0) (ms := 0) C hL1 hF1 rfl (c_Jx4a65c_size_8abf5 l hlst G L F a1 mo ea n hL1 hF1 ) (cwV 0 C.1.2.2.2.2 gX2_loadRestored_Jx4a65c_size_8abf5 rfl rfl rfl (by decide +kernel) ⟨Nat.le_of_ble_eq_true rfl, Nat.le_of_ble_eq_true rfl⟩) rfl (Nat.le_of_ble_eq_true rfl) ⟨Nat.le_of_ble_eq_true rfl, Nat.le_of_ble_eq_true rfl⟩ dX2_loadRestored_9 (z_p ?_)
      refine z_stk (st' := [.int (nI n), .int (nI k)]) rfl ?_
      refine z_icmp_ge C 38 (((n : Nat) : Int) ≤ ((k : Nat) : Int)) (zi_le (zi_N (n := n) (by omega)) (zi_N (n := k) (by omega))) dX2_loadRestored_12 (by decide) (fun c1_ => ?_) (fun c1_ => ?_)
      · -- 12 taken
        refine z_iload_n C dX2_loadRestored_38 rfl 1 rfl ?_
        refine z_iret0 C rfl rfl (by decide) (by decide) dX2_loadRestored_39 ?_
        obtain rfl : n = k := by omega
        exact ⟨rfl, rfl, rfl⟩
      · -- 12 not taken
        refine z_iload_n C dX2_loadRestored_15 rfl 1 rfl ?_
        refine z_aload_n C dX2_loadRestored_16 rfl 0 rfl ?_
        refine z_get (ref := "Shedwheel") (v := .ref a1) C hin_X2_loadRestored_X2 hL0 hF0 rfl 0 (by decide) (by decide +kernel) (fun _ h9 => h9) rfl dX2_loadRestored_17 ?_
        refine z_iload_n C dX2_loadRestored_20 rfl 2 rfl ?_
        have hlt : k < n := by omega
        obtain ⟨hLe, hGe, hnn, hcap⟩ : ea ∈ L ∧ F ea = .inl (G.2.2.1, nn, .inr (.inr (.inr (.inr fe)))) ∧ n ≤ nn ∧ (nn = 10 ∨ nn = 15) := by
          rcases hFe with ⟨h9, -⟩ | h9
          · omega
          · exact h9
        refine z_callV (As := [.int (nI k)]) (st := [.int (nI (smV (fun j => fRs (fd j)) k))]) (mc := 0) (ms := 0) C hL1 hF1 rfl (c_Jx4a65c_get_915e3 l hlst G L F a1 mo ea n hL1 hF1 nn k (ad k) fe hLe hGe (by omega) (by omega) (hfe k (by omega)) (by omega) (by omega)) (cwV 1 C.1.2.2.2.2 gX2_loadRestored_Jx4a65c_get_915e3 rfl rfl rfl (by decide +kernel) ⟨Nat.le_of_ble_eq_true rfl, Nat.le_of_ble_eq_true rfl⟩) rfl (Nat.le_of_ble_eq_true rfl) ⟨Nat.le_of_ble_eq_true rfl, Nat.le_of_ble_eq_true rfl⟩ dX2_loadRestored_21 (z_p ?_)
        refine z_stk (st' := [.ref ((ad k)), .int (nI (smV (fun j => fRs (fd j)) k))]) rfl ?_
        have hLa := (hFd k hlt).1
        have hFa : F (ad k) = fdE (fd k) := (hFd k hlt).2.1
        have hOk : fOk now (fd k) := (hFd k hlt).2.2.1
        obtain ⟨u1, u2, u3, u4, u5, u6, u7, u8⟩ := id hOk
        refine z_castX0 C hLa hFa (by decide +kernel) dX2_loadRestored_24 ?_
        refine z_callVN (As := []) (st := [.int (nI (smV (fun j => fRs (fd j)) k))]) (mc := 0) (ms := 0) C hLa hFa rfl (c_X0_takenIfRestored l hlst G L F (ad k) (fSg (fd k)) (fMw (fd k)) (fCr (fd k)) (fOf (fd k)) (fHo (fd k)) (fTh (fd k)) (fCo (fd k)) hLa hFa (by omega) (by omega) (by omega) (by omega)) ⟨va_cnB 0 C.1.2.2.2.2 gX2_loadRestored_X0_takenIfRestored_n143 rfl rfl rfl (z_nl (host := RX2) C (by decide +kernel)) (C.1.2.2.2.2 _ (show Cond.initialized RX0 ∈ _ from (by decide +kernel))) (by decide +kernel) ⟨Nat.le_of_ble_eq_true rfl, Nat.le_of_ble_eq_true rfl⟩, C.1.2.2.2.2 _ (show Cond.instanceMethod yX0_takenIfRestored ∈ _ from (by decide +kernel)), C.1.2.2.2.2 _ (show Cond.selects RX0 yX0_takenIfRestored yX0_takenIfRestored ∈ _ from (by decide +kernel))⟩ rfl (Nat.le_of_ble_eq_true rfl) ⟨Nat.le_of_ble_eq_true rfl, Nat.le_of_ble_eq_true rfl⟩ dX2_loadRestored_27 (z_p ?_)
        refine z_stk (st' := [.int (nI (rsV (fMw (fd k)) (fOf (fd k)) (fTh (fd k)) (fCo (fd k)))), .int (nI (smV (fun j => fRs (fd j)) k))]) rfl ?_
        refine z_iadd C (nI (smV (fun j => fRs (fd j)) k + rsV (fMw (fd k)) (fOf (fd k)) (fTh (fd k)) (fCo (fd k)))) dX2_loadRestored_30 (nI_add (smV (fun j => fRs (fd j)) k) (rsV (fMw (fd k)) (fOf (fd k)) (fTh (fd k)) (fCo (fd k)))) ?_
        refine z_istore_n (lv' := [(1, .int (nI (smV (fun j => fRs (fd j)) k + rsV (fMw (fd k)) (fOf (fd k)) (fTh (fd k)) (fCo (fd k))))), (0, .ref a0), (2, .int (nI k))]) C dX2_loadRestored_31 rfl (by decide) rfl ?_
        refine z_iinc (v := nI (k + 1)) (lv' := [(2, .int (nI (k + 1))), (1, .int (nI (smV (fun j => fRs (fd j)) k + rsV (fMw (fd k)) (fOf (fd k)) (fTh (fd k)) (fCo (fd k))))), (0, .ref a0)]) C dX2_loadRestored_32 2 rfl (nI_add k 1) (by decide) rfl ?_
        refine z_goto C 4 dX2_loadRestored_35 (by decide) ?_
        refine z_lvs (lv' := [(2, .int (nI (k + 1))), (1, .int (nI (smV (fun j => fRs (fd j)) (k + 1)))), (0, .ref a0)]) rfl ?_
        refine z_sub (lv' := [(0, .ref a0), (1, .int (nI (smV (fun j => fRs (fd j)) (k + 1)))), (2, .int (nI (k + 1)))]) [2, 1, 0] rfl ?_
        exact ih4 (k + 1) (by omega) (by omega)
  exact lp4 _ 0 (Nat.zero_le _) (Nat.lt_succ_self _)

def rtV (r : FdT) : Nat := if fOf r = 1 ∧ fCr r = 0 then fRs r else 0

set_option maxRecDepth 100000 in
theorem hin_X2_takenByReturning_X2 : ∀ w ∈ u_ws RX2 TX2 4, w ∈ wsX2_takenByReturning := by decide +kernel
set_option maxHeartbeats 4000000 in
set_option maxRecDepth 100000 in
theorem c_X2_takenByReturning (l : Launch) (hlst : l.stackTraces = false) (G : zGt) (L : List Nat) (F : Nat → va_E) (M : Nat → Prop) (a0 a1 a2 b4 b5 b6 b7 : Nat) (ad : Nat → Nat) (n now sl : Nat) (fd : Nat → FdT) (hco : zCo G M L F a0 a1 a2 b4 b5 b6 b7 ad n now sl fd)  : zM l yX2_takenByReturning wsX2_takenByReturning 10 154 0 0 G L F [.ref a0] (fun rv L1 F1 => rv = some (.int (nI (smV (fun j => rtV (fd j)) n))) ∧ L1 = L ∧ F1 = F) := by
  obtain ⟨⟨hL0, hL1, hL2, hL4, hL5, hL6, hL7⟩, hF0, ⟨mo, ea, nn, fe, hF1, hFe, hfe, hMe⟩, hSr, hNb, hFd, hIj, ⟨hn, hnow, hsl⟩, hM0, hM1, hM2, hM4, hM5, hM6, hM7⟩ := id hco
  refine z_of (cc := cX2_takenByReturning) (nL := 4) (ret := (some .int)) (own := RX2) hlst (by decide +kernel) rfl rfl (Nat.le_of_ble_eq_true rfl) ?_
  intro p e s m below meth c A hnm C
  refine z_lvs (lv' := [(0, .ref a0)]) rfl ?_
  refine z_iconst C (nI 0) dX2_takenByReturning_0 (by decide) ?_
  refine z_istore_n (lv' := [(1, .int (nI 0)), (0, .ref a0)]) C dX2_takenByReturning_1 rfl (by decide) rfl ?_
  refine z_iconst C (nI 0) dX2_takenByReturning_2 (by decide) ?_
  refine z_istore_n (lv' := [(2, .int (nI 0)), (1, .int (nI 0)), (0, .ref a0)]) C dX2_takenByReturning_3 rfl (by decide) rfl ?_
  refine z_lvs (lv' := [(2, .int (nI 0)), (1, .int (nI (smV (fun j => rtV (fd j)) 0))), (0, .ref a0)]) rfl ?_
  refine z_sub (lv' := [(0, .ref a0), (1, .int (nI (smV (fun j => rtV (fd j)) 0))), (2, .int (nI 0))]) [2, 1, 0] rfl ?_
  have lp4 : ∀ (N9 : Nat) (k : Nat) (hk : k ≤ n) (h9 : n - k < N9), zW p l e { frames := 10, cells := 0, slots := 0, locals := 154 } s m [.ref a0].toArray below meth c 4 G A (MQ below (zQ G (fun rv L1 F1 => rv = some (.int (nI (smV (fun j => rtV (fd j)) n))) ∧ L1 = L ∧ F1 = F) A) [.ref a0].toArray s 0 0 A) 0 0 L F 4 [(0, .ref a0), (1, .int (nI (smV (fun j => rtV (fd j)) k))), (2, .int (nI k))] [] := by
    intro N9
    induction N9 with
    | zero => intro k hk h9; exact absurd h9 (Nat.not_lt_zero _)
    | succ N9 ih4 =>
      intro k hk hN4
      refine z_iload_n C dX2_takenByReturning_4 rfl 2 rfl ?_
      refine z_aload_n C dX2_takenByReturning_5 rfl 0 rfl ?_
      refine z_get (ref := "Shedwheel") (v := .ref a1) C hin_X2_takenByReturning_X2 hL0 hF0 rfl 0 (by decide) (by decide +kernel) (fun _ h9 => h9) rfl dX2_takenByReturning_6 ?_
      refine z_callV (As := []) (st := [.int (nI k)]) (mc := 0) (ms := 0) C hL1 hF1 rfl (c_Jx4a65c_size_8abf5 l hlst G L F a1 mo ea n hL1 hF1 ) (cwV 0 C.1.2.2.2.2 gX2_takenByReturning_Jx4a65c_size_8abf5 rfl rfl rfl (by decide +kernel) ⟨Nat.le_of_ble_eq_true rfl, Nat.le_of_ble_eq_true rfl⟩) rfl (Nat.le_of_ble_eq_true rfl) ⟨Nat.le_of_ble_eq_true rfl, Nat.le_of_ble_eq_true rfl⟩ dX2_takenByReturning_9 (z_p ?_)
      refine z_stk (st' := [.int (nI n), .int (nI k)]) rfl ?_
      refine z_icmp_ge C 47 (((n : Nat) : Int) ≤ ((k : Nat) : Int)) (zi_le (zi_N (n := n) (by omega)) (zi_N (n := k) (by omega))) dX2_takenByReturning_12 (by decide) (fun c1_ => ?_) (fun c1_ => ?_)
      · -- 12 taken
        refine z_iload_n C dX2_takenByReturning_47 rfl 1 rfl ?_
        refine z_iret0 C rfl rfl (by decide) (by decide) dX2_takenByReturning_48 ?_
        obtain rfl : n = k := by omega
        exact ⟨rfl, rfl, rfl⟩
      · -- 12 not taken
        refine z_aload_n C dX2_takenByReturning_15 rfl 0 rfl ?_
        refine z_get (ref := "Shedwheel") (v := .ref a1) C hin_X2_takenByReturning_X2 hL0 hF0 rfl 0 (by decide) (by decide +kernel) (fun _ h9 => h9) rfl dX2_takenByReturning_16 ?_
        refine z_iload_n C dX2_takenByReturning_19 rfl 2 rfl ?_
        have hlt : k < n := by omega
        obtain ⟨hLe, hGe, hnn, hcap⟩ : ea ∈ L ∧ F ea = .inl (G.2.2.1, nn, .inr (.inr (.inr (.inr fe)))) ∧ n ≤ nn ∧ (nn = 10 ∨ nn = 15) := by
          rcases hFe with ⟨h9, -⟩ | h9
          · omega
          · exact h9
        refine z_callV (As := [.int (nI k)]) (st := []) (mc := 0) (ms := 0) C hL1 hF1 rfl (c_Jx4a65c_get_915e3 l hlst G L F a1 mo ea n hL1 hF1 nn k (ad k) fe hLe hGe (by omega) (by omega) (hfe k (by omega)) (by omega) (by omega)) (cwV 1 C.1.2.2.2.2 gX2_takenByReturning_Jx4a65c_get_915e3 rfl rfl rfl (by decide +kernel) ⟨Nat.le_of_ble_eq_true rfl, Nat.le_of_ble_eq_true rfl⟩) rfl (Nat.le_of_ble_eq_true rfl) ⟨Nat.le_of_ble_eq_true rfl, Nat.le_of_ble_eq_true rfl⟩ dX2_takenByReturning_20 (z_p ?_)
        refine z_stk (st' := [.ref ((ad k))]) rfl ?_
        have hLa := (hFd k hlt).1
        have hFa : F (ad k) = fdE (fd k) := (hFd k hlt).2.1
        have hOk : fOk now (fd k) := (hFd k hlt).2.2.1
        obtain ⟨u1, u2, u3, u4, u5, u6, u7, u8⟩ := id hOk
        refine z_castX0 C hLa hFa (by decide +kernel) dX2_takenByReturning_23 ?_
        refine z_astore_n (lv' := [(3, .ref ((ad k))), (0, .ref a0), (1, .int (nI (smV (fun j => rtV (fd j)) k))), (2, .int (nI k))]) C dX2_takenByReturning_26 rfl (by decide) rfl ?_
        refine z_aload_n C dX2_takenByReturning_27 rfl 0 rfl ?_
        refine z_callVN (As := []) (st := []) (mc := 0) (ms := 0) C hLa hFa rfl (c_X0_mayReturn l hlst G L F (ad k) (fSg (fd k)) (fMw (fd k)) (fCr (fd k)) (fOf (fd k)) (fHo (fd k)) (fTh (fd k)) (fCo (fd k)) hLa hFa (by omega) (by omega)) ⟨va_cnB 0 C.1.2.2.2.2 gX2_takenByReturning_X0_mayReturn_n156 rfl rfl rfl (z_nl (host := RX2) C (by decide +kernel)) (C.1.2.2.2.2 _ (show Cond.initialized RX0 ∈ _ from (by decide +kernel))) (by decide +kernel) ⟨Nat.le_of_ble_eq_true rfl, Nat.le_of_ble_eq_true rfl⟩, C.1.2.2.2.2 _ (show Cond.instanceMethod yX0_mayReturn ∈ _ from (by decide +kernel)), C.1.2.2.2.2 _ (show Cond.selects RX0 yX0_mayReturn yX0_mayReturn ∈ _ from (by decide +kernel))⟩ rfl (Nat.le_of_ble_eq_true rfl) ⟨Nat.le_of_ble_eq_true rfl, Nat.le_of_ble_eq_true rfl⟩ dX2_takenByReturning_28 (z_p ?_)
        refine z_stk (st' := [.int (nI (if fOf (fd k) = 1 ∧ fCr (fd k) = 0 then 1 else 0))]) rfl ?_
        refine z_if_eq C 41 (¬ (fOf (fd k) = 1 ∧ fCr (fd k) = 0)) (zif_iff) dX2_takenByReturning_31 (by decide) (fun c2_ => ?_) (fun c2_ => ?_)
        · -- 31 taken
          refine z_iinc (v := nI (k + 1)) (lv' := [(2, .int (nI (k + 1))), (3, .ref ((ad k))), (0, .ref a0), (1, .int (nI (smV (fun j => rtV (fd j)) k)))]) C dX2_takenByReturning_41 3 rfl (nI_add k 1) (by decide) rfl ?_
          refine z_goto C 4 dX2_takenByReturning_44 (by decide) ?_
          refine z_lvs (lv' := [(2, .int (nI (k + 1))), (3, .ref ((ad k))), (0, .ref a0), (1, .int (nI (smV (fun j => rtV (fd j)) (k + 1))))]) (by rw [smV_s, show rtV (fd k) = 0 from by rw [rtV, if_neg (by omega)]]; rfl) ?_
          refine z_sub (lv' := [(0, .ref a0), (1, .int (nI (smV (fun j => rtV (fd j)) (k + 1)))), (2, .int (nI (k + 1)))]) [2, 3, 0] rfl ?_
          exact ih4 (k + 1) (by omega) (by omega)
        · -- 31 not taken
          refine z_iload_n C dX2_takenByReturning_34 rfl 2 rfl ?_
          refine z_aload_n C dX2_takenByReturning_35 rfl 0 rfl ?_
          refine z_callVN (As := []) (st := [.int (nI (smV (fun j => rtV (fd j)) k))]) (mc := 0) (ms := 0) C hLa hFa rfl (c_X0_takenIfRestored l hlst G L F (ad k) (fSg (fd k)) (fMw (fd k)) (fCr (fd k)) (fOf (fd k)) (fHo (fd k)) (fTh (fd k)) (fCo (fd k)) hLa hFa (by omega) (by omega) (by omega) (by omega)) ⟨va_cnB 0 C.1.2.2.2.2 gX2_takenByReturning_X0_takenIfRestored_n143 rfl rfl rfl (z_nl (host := RX2) C (by decide +kernel)) (C.1.2.2.2.2 _ (show Cond.initialized RX0 ∈ _ from (by decide +kernel))) (by decide +kernel) ⟨Nat.le_of_ble_eq_true rfl, Nat.le_of_ble_eq_true rfl⟩, C.1.2.2.2.2 _ (show Cond.instanceMethod yX0_takenIfRestored ∈ _ from (by decide +kernel)), C.1.2.2.2.2 _ (show Cond.selects RX0 yX0_takenIfRestored yX0_takenIfRestored ∈ _ from (by decide +kernel))⟩ rfl (Nat.le_of_ble_eq_true rfl) ⟨Nat.le_of_ble_eq_true rfl, Nat.le_of_ble_eq_true rfl⟩ dX2_takenByReturning_36 (z_p ?_)
          refine z_stk (st' := [.int (nI (rsV (fMw (fd k)) (fOf (fd k)) (fTh (fd k)) (fCo (fd k)))), .int (nI (smV (fun j => rtV (fd j)) k))]) rfl ?_
          refine z_iadd C (nI (smV (fun j => rtV (fd j)) k + rsV (fMw (fd k)) (fOf (fd k)) (fTh (fd k)) (fCo (fd k)))) dX2_takenByReturning_39 (nI_add (smV (fun j => rtV (fd j)) k) (rsV (fMw (fd k)) (fOf (fd k)) (fTh (fd k)) (fCo (fd k)))) ?_
          refine z_istore_n (lv' := [(1, .int (nI (smV (fun j => rtV (fd j)) k + rsV (fMw (fd k)) (fOf (fd k)) (fTh (fd k)) (fCo (fd k))))), (3, .ref ((ad k))), (0, .ref a0), (2, .int (nI k))]) C dX2_takenByReturning_40 rfl (by decide) rfl ?_
          refine z_iinc (v := nI (k + 1)) (lv' := [(2, .int (nI (k + 1))), (1, .int (nI (smV (fun j => rtV (fd j)) k + rsV (fMw (fd k)) (fOf (fd k)) (fTh (fd k)) (fCo (fd k))))), (3, .ref ((ad k))), (0, .ref a0)]) C dX2_takenByReturning_41 3 rfl (nI_add k 1) (by decide) rfl ?_
          refine z_goto C 4 dX2_takenByReturning_44 (by decide) ?_
          refine z_lvs (lv' := [(2, .int (nI (k + 1))), (1, .int (nI (smV (fun j => rtV (fd j)) (k + 1)))), (3, .ref ((ad k))), (0, .ref a0)]) (by rw [smV_s, show rtV (fd k) = fRs (fd k) from by rw [rtV, if_pos (by omega)]]; rfl) ?_
          refine z_sub (lv' := [(0, .ref a0), (1, .int (nI (smV (fun j => rtV (fd j)) (k + 1)))), (2, .int (nI (k + 1)))]) [3, 1, 0] rfl ?_
          exact ih4 (k + 1) (by omega) (by omega)
  exact lp4 _ 0 (Nat.zero_le _) (Nat.lt_succ_self _)
