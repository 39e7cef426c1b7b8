theorem zif_iff {P : Prop} [Decidable P] : nI (if P then 1 else 0) = 0 ↔ ¬ P := by
  by_cases h : P
  · rw [if_pos h]; exact ⟨fun q => absurd q (by decide), fun q => absurd h q⟩
  · rw [if_neg h]; exact ⟨fun _ => h, fun _ => rfl⟩
theorem xOk0 (nu : Nat → Nat) (o : Nat) (h : o ≤ 12) : xOk nu o (0, 0, 0) := ⟨fun _ _ => Nat.dvd_zero _, by decide, by show 0 + o * 1998 ≤ 24000; omega, by show 0 + o * 60000 ≤ 720000; omega⟩
set_option maxRecDepth 100000 in
theorem hin_X1_begin_X1 : ∀ w ∈ u_ws RX1 TX1 10, w ∈ wsX1_begin := by decide +kernel
set_option maxHeartbeats 4000000 in
set_option maxRecDepth 100000 in
theorem c_X1_begin (l : Launch) (hlst : l.stackTraces = false) (G : zGt) (L : List Nat) (F : Nat → va_E) (h0 b4 b5 b6 b7 : Nat) (cnt sf nl bs bt bh : Nat) (hL0 : h0 ∈ L) (hF0 : F h0 = .inr (2, [.ref b4, .ref b5, .ref b6, .ref b7, .int (nI cnt), .int (nI sf), .int (nI nl), .int (nI bs), .int (nI bt), .int (nI bh)])) (a b : Nat) : zM l yX1_begin wsX1_begin 1 24 0 0 G L F [.ref h0, .int (nI a), .int (nI b)] (fun rv L1 F1 => rv = none ∧ L1 = L ∧ F1 h0 = .inr (2, [.ref b4, .ref b5, .ref b6, .ref b7, .int (nI (0)), .int (nI (a)), .int (nI (a + b)), .int (nI (0)), .int (nI (bt)), .int (nI (bh))]) ∧ ∀ b, b ≠ h0 → F1 b = F b) := by
  refine z_of (cc := cX1_begin) (nL := 3) (ret := none) (own := RX1) hlst (by decide +kernel) rfl rfl (Nat.le_of_ble_eq_true rfl) ?_
  intro p e s m below meth c A hnm C
  refine z_lvs (lv' := [(0, .ref h0), (1, .int (nI a)), (2, .int (nI b))]) rfl ?_
  refine z_aload_n C dX1_begin_0 rfl 0 rfl ?_
  refine z_iload_n C dX1_begin_1 rfl 1 rfl ?_
  refine z_put (ref := "Shedwheel$Search") (v := .int (nI a)) (fs' := [.ref b4, .ref b5, .ref b6, .ref b7, .int (nI cnt), .int (nI a), .int (nI nl), .int (nI bs), .int (nI bt), .int (nI bh)]) C hin_X1_begin_X1 tyX1 tyX1_ok nmX1 hL0 hF0 rfl 5 (by decide) (by decide +kernel) (fun _ h9 => h9) rfl rfl rfl (Nat.le_of_ble_eq_true rfl) rfl dX1_begin_2 (fun F1_ h2_ k3_ => ?_)
  have kc4_ : ∀ b, b ≠ h0 → F1_ b = F b := fun b q0 => k3_ b q0
  refine z_aload_n C dX1_begin_5 rfl 0 rfl ?_
  refine z_iload_n C dX1_begin_6 rfl 1 rfl ?_
  refine z_iload_n C dX1_begin_7 rfl 2 rfl ?_
  refine z_iadd C (nI (a + b)) dX1_begin_8 (nI_add a b) ?_
  refine z_put (ref := "Shedwheel$Search") (v := .int (nI (a + b))) (fs' := [.ref b4, .ref b5, .ref b6, .ref b7, .int (nI cnt), .int (nI a), .int (nI (a + b)), .int (nI bs), .int (nI bt), .int (nI bh)]) C hin_X1_begin_X1 tyX1 tyX1_ok nmX1 hL0 h2_ rfl 6 (by decide) (by decide +kernel) (fun _ h9 => h9) rfl rfl rfl (Nat.le_of_ble_eq_true rfl) rfl dX1_begin_9 (fun F5_ h6_ k7_ => ?_)
  have kc8_ : ∀ b, b ≠ h0 → F5_ b = F b := fun b q0 => (k7_ b q0).trans (kc4_ b q0)
  refine z_aload_n C dX1_begin_12 rfl 0 rfl ?_
  refine z_iconst C (nI 0) dX1_begin_13 (by decide) ?_
  refine z_put (ref := "Shedwheel$Search") (v := .int (nI 0)) (fs' := [.ref b4, .ref b5, .ref b6, .ref b7, .int (nI 0), .int (nI a), .int (nI (a + b)), .int (nI bs), .int (nI bt), .int (nI bh)]) C hin_X1_begin_X1 tyX1 tyX1_ok nmX1 hL0 h6_ rfl 4 (by decide) (by decide +kernel) (fun _ h9 => h9) rfl rfl rfl (Nat.le_of_ble_eq_true rfl) rfl dX1_begin_14 (fun F9_ h10_ k11_ => ?_)
  have kc12_ : ∀ b, b ≠ h0 → F9_ b = F b := fun b q0 => (k11_ b q0).trans (kc8_ b q0)
  refine z_aload_n C dX1_begin_17 rfl 0 rfl ?_
  refine z_iconst C (nI 0) dX1_begin_18 (by decide) ?_
  refine z_put (ref := "Shedwheel$Search") (v := .int (nI 0)) (fs' := [.ref b4, .ref b5, .ref b6, .ref b7, .int (nI 0), .int (nI a), .int (nI (a + b)), .int (nI 0), .int (nI bt), .int (nI bh)]) C hin_X1_begin_X1 tyX1 tyX1_ok nmX1 hL0 h10_ rfl 7 (by decide) (by decide +kernel) (fun _ h9 => h9) rfl rfl rfl (Nat.le_of_ble_eq_true rfl) rfl dX1_begin_19 (fun F13_ h14_ k15_ => ?_)
  have kc16_ : ∀ b, b ≠ h0 → F13_ b = F b := fun b q0 => (k15_ b q0).trans (kc12_ b q0)
  refine z_vret0 C rfl (by decide) (by decide) dX1_begin_22 ?_
  exact ⟨rfl, rfl, h14_, kc16_⟩

set_option maxRecDepth 100000 in
theorem hin_X1_offer_X1 : ∀ w ∈ u_ws RX1 TX1 10, w ∈ wsX1_offer := by decide +kernel
set_option maxHeartbeats 4000000 in
set_option maxRecDepth 100000 in
theorem c_X1_offer (l : Launch) (hlst : l.stackTraces = false) (G : zGt) (L : List Nat) (F : Nat → va_E) (h0 b4 b5 b6 b7 : Nat) (cnt sf nl bs bt bh : Nat) (hL0 : h0 ∈ L) (hF0 : F h0 = .inr (2, [.ref b4, .ref b5, .ref b6, .ref b7, .int (nI cnt), .int (nI sf), .int (nI nl), .int (nI bs), .int (nI bt), .int (nI bh)])) (f4 f5 f6 f7 : Nat → Int32) (hL4 : b4 ∈ L) (hF4 : F b4 = .inl (G.2.1, 12, .inl f4)) (hL5 : b5 ∈ L) (hF5 : F b5 = .inl (G.2.1, 12, .inl f5)) (hL6 : b6 ∈ L) (hF6 : F b6 = .inl (G.2.1, 12, .inl f6)) (hL7 : b7 ∈ L) (hF7 : F b7 = .inl (G.2.1, 13, .inl f7)) (n45 : b4 ≠ b5) (n46 : b4 ≠ b6) (n47 : b4 ≠ b7) (n56 : b5 ≠ b6) (n57 : b5 ≠ b7) (n67 : b6 ≠ b7) (nu tk hr sm : Nat) (hc : cnt < 12) (hnu : nu < 12) (h7 : f7 cnt = nI sm) : zM l yX1_offer wsX1_offer 1 24 0 0 G L F [.ref h0, .int (nI nu), .int (nI tk), .int (nI hr)] (fun rv L1 F1 => rv = none ∧ L1 = L ∧ F1 b4 = .inl (G.2.1, 12, .inl (upd f4 cnt (nI (2 ^ nu)))) ∧ F1 b5 = .inl (G.2.1, 12, .inl (upd f5 cnt (nI tk))) ∧ F1 b6 = .inl (G.2.1, 12, .inl (upd f6 cnt (nI hr))) ∧ F1 b7 = .inl (G.2.1, 13, .inl (upd f7 (cnt + 1) (nI (sm + tk)))) ∧ F1 h0 = .inr (2, [.ref b4, .ref b5, .ref b6, .ref b7, .int (nI (cnt + 1)), .int (nI (sf)), .int (nI (nl)), .int (nI (bs)), .int (nI (bt)), .int (nI (bh))]) ∧ ∀ b, b ≠ b4 → b ≠ b5 → b ≠ b6 → b ≠ b7 → b ≠ h0 → F1 b = F b) := by
  refine z_of (cc := cX1_offer) (nL := 4) (ret := none) (own := RX1) hlst (by decide +kernel) rfl rfl (Nat.le_of_ble_eq_true rfl) ?_
  intro p e s m below meth c A hnm C
  refine z_lvs (lv' := [(0, .ref h0), (1, .int (nI nu)), (2, .int (nI tk)), (3, .int (nI hr))]) rfl ?_
  refine z_aload_n C dX1_offer_0 rfl 0 rfl ?_
  refine z_get (ref := "Shedwheel$Search") (v := .int (nI cnt)) C hin_X1_offer_X1 hL0 hF0 rfl 4 (by decide) (by decide +kernel) (fun _ h9 => h9) rfl dX1_offer_1 ?_
  refine z_bipush C (nI 12) dX1_offer_4 (by decide) ?_
  refine z_icmp_lt C 10 (((cnt : Nat) : Int) < ((12 : Nat) : Int)) (zi_lt (zi_N (n := cnt) (by omega)) (zi_N (n := 12) (by omega))) dX1_offer_6 (by decide) (fun c1_ => ?_) (fun c1_ => absurd c1_ (by omega))
  refine z_aload_n C dX1_offer_10 rfl 0 rfl ?_
  refine z_get (ref := "Shedwheel$Search") (v := .ref b4) C hin_X1_offer_X1 hL0 hF0 rfl 0 (by decide) (by decide +kernel) (fun _ h9 => h9) rfl dX1_offer_11 ?_
  refine z_aload_n C dX1_offer_14 rfl 0 rfl ?_
  refine z_get (ref := "Shedwheel$Search") (v := .int (nI cnt)) C hin_X1_offer_X1 hL0 hF0 rfl 4 (by decide) (by decide +kernel) (fun _ h9 => h9) rfl dX1_offer_15 ?_
  refine z_iconst C (nI 1) dX1_offer_18 (by decide) ?_
  refine z_iload_n C dX1_offer_19 rfl 1 rfl ?_
  refine z_ishl C (nI (2 ^ nu)) dX1_offer_20 (shl1 (by omega)) ?_
  refine z_iast C hL4 hF4 (by omega) (by omega) dX1_offer_21 (fun F2_ h3_ k4_ => ?_)
  have h5_ : F2_ h0 = .inr (2, [.ref b4, .ref b5, .ref b6, .ref b7, .int (nI cnt), .int (nI sf), .int (nI nl), .int (nI bs), .int (nI bt), .int (nI bh)]) := (k4_ h0 (zne hF0 hF4 rfl)).trans hF0
  have h6_ : F2_ b5 = .inl (G.2.1, 12, .inl f5) := (k4_ b5 (Ne.symm n45)).trans hF5
  have h7_ : F2_ b6 = .inl (G.2.1, 12, .inl f6) := (k4_ b6 (Ne.symm n46)).trans hF6
  have h8_ : F2_ b7 = .inl (G.2.1, 13, .inl f7) := (k4_ b7 (Ne.symm n47)).trans hF7
  have kc9_ : ∀ b, b ≠ b4 → F2_ b = F b := fun b q0 => k4_ b q0
  refine z_aload_n C dX1_offer_22 rfl 0 rfl ?_
  refine z_get (ref := "Shedwheel$Search") (v := .ref b5) C hin_X1_offer_X1 hL0 h5_ rfl 1 (by decide) (by decide +kernel) (fun _ h9 => h9) rfl dX1_offer_23 ?_
  refine z_aload_n C dX1_offer_26 rfl 0 rfl ?_
  refine z_get (ref := "Shedwheel$Search") (v := .int (nI cnt)) C hin_X1_offer_X1 hL0 h5_ rfl 4 (by decide) (by decide +kernel) (fun _ h9 => h9) rfl dX1_offer_27 ?_
  refine z_iload_n C dX1_offer_30 rfl 2 rfl ?_
  refine z_iast C hL5 h6_ (by omega) (by omega) dX1_offer_31 (fun F10_ h11_ k12_ => ?_)
  have h13_ : F10_ h0 = .inr (2, [.ref b4, .ref b5, .ref b6, .ref b7, .int (nI cnt), .int (nI sf), .int (nI nl), .int (nI bs), .int (nI bt), .int (nI bh)]) := (k12_ h0 (zne h5_ h6_ rfl)).trans h5_
  have h14_ : F10_ b4 = .inl (G.2.1, 12, .inl (upd f4 cnt (nI (2 ^ nu)))) := (k12_ b4 n45).trans h3_
  have h15_ : F10_ b6 = .inl (G.2.1, 12, .inl f6) := (k12_ b6 (Ne.symm n56)).trans h7_
  have h16_ : F10_ b7 = .inl (G.2.1, 13, .inl f7) := (k12_ b7 (Ne.symm n57)).trans h8_
  have kc17_ : ∀ b, b ≠ b4 → b ≠ b5 → F10_ b = F b := fun b q0 q1 => (k12_ b q1).trans (kc9_ b q0)
  refine z_aload_n C dX1_offer_32 rfl 0 rfl ?_
  refine z_get (ref := "Shedwheel$Search") (v := .ref b6) C hin_X1_offer_X1 hL0 h13_ rfl 2 (by decide) (by decide +kernel) (fun _ h9 => h9) rfl dX1_offer_33 ?_
  refine z_aload_n C dX1_offer_36 rfl 0 rfl ?_
  refine z_get (ref := "Shedwheel$Search") (v := .int (nI cnt)) C hin_X1_offer_X1 hL0 h13_ rfl 4 (by decide) (by decide +kernel) (fun _ h9 => h9) rfl dX1_offer_37 ?_
  refine z_iload_n C dX1_offer_40 rfl 3 rfl ?_
  refine z_iast C hL6 h15_ (by omega) (by omega) dX1_offer_41 (fun F18_ h19_ k20_ => ?_)
  have h21_ : F18_ h0 = .inr (2, [.ref b4, .ref b5, .ref b6, .ref b7, .int (nI cnt), .int (nI sf), .int (nI nl), .int (nI bs), .int (nI bt), .int (nI bh)]) := (k20_ h0 (zne h13_ h15_ rfl)).trans h13_
  have h22_ : F18_ b4 = .inl (G.2.1, 12, .inl (upd f4 cnt (nI (2 ^ nu)))) := (k20_ b4 n46).trans h14_
  have h23_ : F18_ b5 = .inl (G.2.1, 12, .inl (upd f5 cnt (nI tk))) := (k20_ b5 n56).trans h11_
  have h24_ : F18_ b7 = .inl (G.2.1, 13, .inl f7) := (k20_ b7 (Ne.symm n67)).trans h16_
  have kc25_ : ∀ b, b ≠ b4 → b ≠ b5 → b ≠ b6 → F18_ b = F b := fun b q0 q1 q2 => (k20_ b q2).trans (kc17_ b q0 q1)
  refine z_aload_n C dX1_offer_42 rfl 0 rfl ?_
  refine z_get (ref := "Shedwheel$Search") (v := .ref b7) C hin_X1_offer_X1 hL0 h21_ rfl 3 (by decide) (by decide +kernel) (fun _ h9 => h9) rfl dX1_offer_43 ?_
  refine z_aload_n C dX1_offer_46 rfl 0 rfl ?_
  refine z_get (ref := "Shedwheel$Search") (v := .int (nI cnt)) C hin_X1_offer_X1 hL0 h21_ rfl 4 (by decide) (by decide +kernel) (fun _ h9 => h9) rfl dX1_offer_47 ?_
  refine z_iconst C (nI 1) dX1_offer_50 (by decide) ?_
  refine z_iadd C (nI (cnt + 1)) dX1_offer_51 (nI_add cnt 1) ?_
  refine z_aload_n C dX1_offer_52 rfl 0 rfl ?_
  refine z_get (ref := "Shedwheel$Search") (v := .ref b7) C hin_X1_offer_X1 hL0 h21_ rfl 3 (by decide) (by decide +kernel) (fun _ h9 => h9) rfl dX1_offer_53 ?_
  refine z_aload_n C dX1_offer_56 rfl 0 rfl ?_
  refine z_get (ref := "Shedwheel$Search") (v := .int (nI cnt)) C hin_X1_offer_X1 hL0 h21_ rfl 4 (by decide) (by decide +kernel) (fun _ h9 => h9) rfl dX1_offer_57 ?_
  refine z_iald C hL7 h24_ (by omega) (by omega) dX1_offer_60 (nI sm) (h7) ?_
  refine z_iload_n C dX1_offer_61 rfl 2 rfl ?_
  refine z_iadd C (nI (sm + tk)) dX1_offer_62 (nI_add sm tk) ?_
  refine z_iast C hL7 h24_ (by omega) (by omega) dX1_offer_63 (fun F26_ h27_ k28_ => ?_)
  have h29_ : F26_ h0 = .inr (2, [.ref b4, .ref b5, .ref b6, .ref b7, .int (nI cnt), .int (nI sf), .int (nI nl), .int (nI bs), .int (nI bt), .int (nI bh)]) := (k28_ h0 (zne h21_ h24_ rfl)).trans h21_
  have h30_ : F26_ b4 = .inl (G.2.1, 12, .inl (upd f4 cnt (nI (2 ^ nu)))) := (k28_ b4 n47).trans h22_
  have h31_ : F26_ b5 = .inl (G.2.1, 12, .inl (upd f5 cnt (nI tk))) := (k28_ b5 n57).trans h23_
  have h32_ : F26_ b6 = .inl (G.2.1, 12, .inl (upd f6 cnt (nI hr))) := (k28_ b6 n67).trans h19_
  have kc33_ : ∀ b, b ≠ b4 → b ≠ b5 → b ≠ b6 → b ≠ b7 → F26_ b = F b := fun b q0 q1 q2 q3 => (k28_ b q3).trans (kc25_ b q0 q1 q2)
  refine z_aload_n C dX1_offer_64 rfl 0 rfl ?_
  refine z_dup C dX1_offer_65 rfl ?_
  refine z_get (ref := "Shedwheel$Search") (v := .int (nI cnt)) C hin_X1_offer_X1 hL0 h29_ rfl 4 (by decide) (by decide +kernel) (fun _ h9 => h9) rfl dX1_offer_66 ?_
  refine z_iconst C (nI 1) dX1_offer_69 (by decide) ?_
  refine z_iadd C (nI (cnt + 1)) dX1_offer_70 (nI_add cnt 1) ?_
  refine z_put (ref := "Shedwheel$Search") (v := .int (nI (cnt + 1))) (fs' := [.ref b4, .ref b5, .ref b6, .ref b7, .int (nI (cnt + 1)), .int (nI sf), .int (nI nl), .int (nI bs), .int (nI bt), .int (nI bh)]) C hin_X1_offer_X1 tyX1 tyX1_ok nmX1 hL0 h29_ rfl 4 (by decide) (by decide +kernel) (fun _ h9 => h9) rfl rfl rfl (Nat.le_of_ble_eq_true rfl) rfl dX1_offer_71 (fun F34_ h35_ k36_ => ?_)
  have h37_ : F34_ b4 = .inl (G.2.1, 12, .inl (upd f4 cnt (nI (2 ^ nu)))) := (k36_ b4 (zne h30_ h29_ rfl)).trans h30_
  have h38_ : F34_ b5 = .inl (G.2.1, 12, .inl (upd f5 cnt (nI tk))) := (k36_ b5 (zne h31_ h29_ rfl)).trans h31_
  have h39_ : F34_ b6 = .inl (G.2.1, 12, .inl (upd f6 cnt (nI hr))) := (k36_ b6 (zne h32_ h29_ rfl)).trans h32_
  have h40_ : F34_ b7 = .inl (G.2.1, 13, .inl (upd f7 (cnt + 1) (nI (sm + tk)))) := (k36_ b7 (zne h27_ h29_ rfl)).trans h27_
  have kc41_ : ∀ b, b ≠ b4 → b ≠ b5 → b ≠ b6 → b ≠ b7 → b ≠ h0 → F34_ b = F b := fun b q0 q1 q2 q3 q4 => (k36_ b q4).trans (kc33_ b q0 q1 q2 q3)
  refine z_vret0 C rfl (by decide) (by decide) dX1_offer_74 ?_
  exact ⟨rfl, rfl, h37_, h38_, h39_, h40_, h35_, kc41_⟩

set_option maxRecDepth 100000 in
theorem hin_X1_isBetter_X1 : ∀ w ∈ u_ws RX1 TX1 10, w ∈ wsX1_isBetter := by decide +kernel
set_option maxHeartbeats 4000000 in
set_option maxRecDepth 100000 in
theorem c_X1_isBetter (l : Launch) (hlst : l.stackTraces = false) (G : zGt) (L : List Nat) (F : Nat → va_E) (h0 b4 b5 b6 b7 : Nat) (cnt sf nl bs bt bh : Nat) (hL0 : h0 ∈ L) (hF0 : F h0 = .inr (2, [.ref b4, .ref b5, .ref b6, .ref b7, .int (nI cnt), .int (nI sf), .int (nI nl), .int (nI bs), .int (nI bt), .int (nI bh)])) (xs xt xh : Nat) (hs : xs < 4096) (ht : xt < 1048576) (hh : xh < 1048576) (hbs : bs < 4096) (hbt : bt < 1048576) (hbh : bh < 1048576) (hnl : nl < 1048576) : zM l yX1_isBetter wsX1_isBetter 1 24 0 0 G L F [.ref h0, .int (nI xs), .int (nI xt), .int (nI xh)] (fun rv L1 F1 => rv = some (.int (nI (if keyV nl xt xh xs < keyV nl bt bh bs then 1 else 0))) ∧ L1 = L ∧ F1 = F) := by
  refine z_of (cc := cX1_isBetter) (nL := 5) (ret := (some .boolean)) (own := RX1) hlst (by decide +kernel) rfl rfl (Nat.le_of_ble_eq_true rfl) ?_
  intro p e s m below meth c A hnm C
  refine z_lvs (lv' := [(0, .ref h0), (1, .int (nI xs)), (2, .int (nI xt)), (3, .int (nI xh))]) rfl ?_
  refine z_iload_n C dX1_isBetter_0 rfl 2 rfl ?_
  refine z_aload_n C dX1_isBetter_1 rfl 0 rfl ?_
  refine z_get (ref := "Shedwheel$Search") (v := .int (nI nl)) C hin_X1_isBetter_X1 hL0 hF0 rfl 6 (by decide) (by decide +kernel) (fun _ h9 => h9) rfl dX1_isBetter_2 ?_
  refine z_icmp_gt C 12 (((nl : Nat) : Int) < ((xt : Nat) : Int)) (zi_lt (zi_N (n := nl) (by omega)) (zi_N (n := xt) (by omega))) dX1_isBetter_5 (by decide) (fun c1_ => ?_) (fun c1_ => ?_)
  · -- 5 taken
    refine z_iconst C (nI 0) dX1_isBetter_12 (by decide) ?_
    refine z_istore (lv' := [(4, .int (nI 0)), (0, .ref h0), (1, .int (nI xs)), (2, .int (nI xt)), (3, .int (nI xh))]) C dX1_isBetter_13 (by decide) rfl ?_
    refine z_iload C dX1_isBetter_15 0 rfl ?_
    refine z_aload_n C dX1_isBetter_17 rfl 1 rfl ?_
    refine z_get (ref := "Shedwheel$Search") (v := .int (nI bt)) C hin_X1_isBetter_X1 hL0 hF0 rfl 8 (by decide) (by decide +kernel) (fun _ h9 => h9) rfl dX1_isBetter_18 ?_
    refine z_aload_n C dX1_isBetter_21 rfl 1 rfl ?_
    refine z_get (ref := "Shedwheel$Search") (v := .int (nI nl)) C hin_X1_isBetter_X1 hL0 hF0 rfl 6 (by decide) (by decide +kernel) (fun _ h9 => h9) rfl dX1_isBetter_22 ?_
    refine z_icmp_gt C 32 (((nl : Nat) : Int) < ((bt : Nat) : Int)) (zi_lt (zi_N (n := nl) (by omega)) (zi_N (n := bt) (by omega))) dX1_isBetter_25 (by decide) (fun c2_ => ?_) (fun c2_ => ?_)
    · -- 25 taken
      refine z_iconst C (nI 0) dX1_isBetter_32 (by decide) ?_
      refine z_icmp_eq C 39 (((0 : Nat) : Int) = ((0 : Nat) : Int)) (zi_eq (zi_N (n := 0) (by omega)) (zi_N (n := 0) (by omega))) dX1_isBetter_33 (by decide) (fun c3_ => ?_) (fun c3_ => absurd c3_ (by omega))
      refine z_iload_n C dX1_isBetter_39 rfl 3 rfl ?_
      refine z_aload_n C dX1_isBetter_40 rfl 1 rfl ?_
      refine z_get (ref := "Shedwheel$Search") (v := .int (nI bt)) C hin_X1_isBetter_X1 hL0 hF0 rfl 8 (by decide) (by decide +kernel) (fun _ h9 => h9) rfl dX1_isBetter_41 ?_
      refine z_icmp_ne C 69 (((xt : Nat) : Int) = ((bt : Nat) : Int)) (zi_eq (zi_N (n := xt) (by omega)) (zi_N (n := bt) (by omega))) dX1_isBetter_44 (by decide) (fun c4_ => ?_) (fun c4_ => ?_)
      · -- 44 taken
        refine z_iload C dX1_isBetter_69 0 rfl ?_
        refine z_if_eq C 112 (((0 : Nat) : Int) = (0 : Int)) (zi_eq (zi_N (n := 0) (by omega)) zi_0) dX1_isBetter_71 (by decide) (fun c5_ => ?_) (fun c5_ => absurd c5_ (by omega))
        refine z_iload_n C dX1_isBetter_112 rfl 3 rfl ?_
        refine z_aload_n C dX1_isBetter_113 rfl 1 rfl ?_
        refine z_get (ref := "Shedwheel$Search") (v := .int (nI bt)) C hin_X1_isBetter_X1 hL0 hF0 rfl 8 (by decide) (by decide +kernel) (fun _ h9 => h9) rfl dX1_isBetter_114 ?_
        refine z_icmp_eq C 136 (((xt : Nat) : Int) = ((bt : Nat) : Int)) (zi_eq (zi_N (n := xt) (by omega)) (zi_N (n := bt) (by omega))) dX1_isBetter_117 (by decide) (fun c6_ => ?_) (fun c6_ => ?_)
        · -- 117 taken
          refine z_iload_n C dX1_isBetter_136 rfl 4 rfl ?_
          refine z_aload_n C dX1_isBetter_137 rfl 1 rfl ?_
          refine z_get (ref := "Shedwheel$Search") (v := .int (nI bh)) C hin_X1_isBetter_X1 hL0 hF0 rfl 9 (by decide) (by decide +kernel) (fun _ h9 => h9) rfl dX1_isBetter_138 ?_
          refine z_icmp_ge C 148 (((bh : Nat) : Int) ≤ ((xh : Nat) : Int)) (zi_le (zi_N (n := bh) (by omega)) (zi_N (n := xh) (by omega))) dX1_isBetter_141 (by decide) (fun c7_ => ?_) (fun c7_ => ?_)
          · -- 141 taken
            refine z_iconst C (nI 0) dX1_isBetter_148 (by decide) ?_
            refine z_iret0 C rfl rfl (by decide) (by decide) dX1_isBetter_149 ?_
            exact ⟨by rw [if_neg (by unfold keyV; split <;> split <;> omega)], rfl, rfl⟩
          · -- 141 not taken
            refine z_iconst C (nI 1) dX1_isBetter_144 (by decide) ?_
            refine z_goto C 149 dX1_isBetter_145 (by decide) ?_
            refine z_iret0 C rfl rfl (by decide) (by decide) dX1_isBetter_149 ?_
            exact ⟨by rw [if_pos (by unfold keyV; split <;> split <;> omega)], rfl, rfl⟩
        · -- 117 not taken
          refine z_iload_n C dX1_isBetter_120 rfl 3 rfl ?_
          refine z_aload_n C dX1_isBetter_121 rfl 1 rfl ?_
          refine z_get (ref := "Shedwheel$Search") (v := .int (nI bt)) C hin_X1_isBetter_X1 hL0 hF0 rfl 8 (by decide) (by decide +kernel) (fun _ h9 => h9) rfl dX1_isBetter_122 ?_
          refine z_icmp_ge C 132 (((bt : Nat) : Int) ≤ ((xt : Nat) : Int)) (zi_le (zi_N (n := bt) (by omega)) (zi_N (n := xt) (by omega))) dX1_isBetter_125 (by decide) (fun c8_ => ?_) (fun c8_ => ?_)
          · -- 125 taken
            refine z_iconst C (nI 0) dX1_isBetter_132 (by decide) ?_
            refine z_goto C 149 dX1_isBetter_133 (by decide) ?_
            refine z_iret0 C rfl rfl (by decide) (by decide) dX1_isBetter_149 ?_
            exact ⟨by rw [if_neg (by unfold keyV; split <;> split <;> omega)], rfl, rfl⟩
          · -- 125 not taken
            refine z_iconst C (nI 1) dX1_isBetter_128 (by decide) ?_
            refine z_goto C 149 dX1_isBetter_129 (by decide) ?_
            refine z_iret0 C rfl rfl (by decide) (by decide) dX1_isBetter_149 ?_
            exact ⟨by rw [if_pos (by unfold keyV; split <;> split <;> omega)], rfl, rfl⟩
      · -- 44 not taken
        refine z_iload_n C dX1_isBetter_47 rfl 4 rfl ?_
        refine z_aload_n C dX1_isBetter_48 rfl 1 rfl ?_
        refine z_get (ref := "Shedwheel$Search") (v := .int (nI bh)) C hin_X1_isBetter_X1 hL0 hF0 rfl 9 (by decide) (by decide +kernel) (fun _ h9 => h9) rfl dX1_isBetter_49 ?_
        refine z_icmp_ne C 69 (((xh : Nat) : Int) = ((bh : Nat) : Int)) (zi_eq (zi_N (n := xh) (by omega)) (zi_N (n := bh) (by omega))) dX1_isBetter_52 (by decide) (fun c9_ => ?_) (fun c9_ => ?_)
        · -- 52 taken
          refine z_iload C dX1_isBetter_69 0 rfl ?_
          refine z_if_eq C 112 (((0 : Nat) : Int) = (0 : Int)) (zi_eq (zi_N (n := 0) (by omega)) zi_0) dX1_isBetter_71 (by decide) (fun c10_ => ?_) (fun c10_ => absurd c10_ (by omega))
          refine z_iload_n C dX1_isBetter_112 rfl 3 rfl ?_
          refine z_aload_n C dX1_isBetter_113 rfl 1 rfl ?_
          refine z_get (ref := "Shedwheel$Search") (v := .int (nI bt)) C hin_X1_isBetter_X1 hL0 hF0 rfl 8 (by decide) (by decide +kernel) (fun _ h9 => h9) rfl dX1_isBetter_114 ?_
          refine z_icmp_eq C 136 (((xt : Nat) : Int) = ((bt : Nat) : Int)) (zi_eq (zi_N (n := xt) (by omega)) (zi_N (n := bt) (by omega))) dX1_isBetter_117 (by decide) (fun c11_ => ?_) (fun c11_ => ?_)
          · -- 117 taken
            refine z_iload_n C dX1_isBetter_136 rfl 4 rfl ?_
            refine z_aload_n C dX1_isBetter_137 rfl 1 rfl ?_
            refine z_get (ref := "Shedwheel$Search") (v := .int (nI bh)) C hin_X1_isBetter_X1 hL0 hF0 rfl 9 (by decide) (by decide +kernel) (fun _ h9 => h9) rfl dX1_isBetter_138 ?_
            refine z_icmp_ge C 148 (((bh : Nat) : Int) ≤ ((xh : Nat) : Int)) (zi_le (zi_N (n := bh) (by omega)) (zi_N (n := xh) (by omega))) dX1_isBetter_141 (by decide) (fun c12_ => ?_) (fun c12_ => ?_)
            · -- 141 taken
              refine z_iconst C (nI 0) dX1_isBetter_148 (by decide) ?_
              refine z_iret0 C rfl rfl (by decide) (by decide) dX1_isBetter_149 ?_
              exact ⟨by rw [if_neg (by unfold keyV; split <;> split <;> omega)], rfl, rfl⟩
            · -- 141 not taken
              refine z_iconst C (nI 1) dX1_isBetter_144 (by decide) ?_
              refine z_goto C 149 dX1_isBetter_145 (by decide) ?_
              refine z_iret0 C rfl rfl (by decide) (by decide) dX1_isBetter_149 ?_
              exact ⟨by rw [if_pos (by unfold keyV; split <;> split <;> omega)], rfl, rfl⟩
          · -- 117 not taken
            refine z_iload_n C dX1_isBetter_120 rfl 3 rfl ?_
            refine z_aload_n C dX1_isBetter_121 rfl 1 rfl ?_
            refine z_get (ref := "Shedwheel$Search") (v := .int (nI bt)) C hin_X1_isBetter_X1 hL0 hF0 rfl 8 (by decide) (by decide +kernel) (fun _ h9 => h9) rfl dX1_isBetter_122 ?_
            refine z_icmp_ge C 132 (((bt : Nat) : Int) ≤ ((xt : Nat) : Int)) (zi_le (zi_N (n := bt) (by omega)) (zi_N (n := xt) (by omega))) dX1_isBetter_125 (by decide) (fun c13_ => ?_) (fun c13_ => ?_)
            · -- 125 taken
              refine z_iconst C (nI 0) dX1_isBetter_132 (by decide) ?_
              refine z_goto C 149 dX1_isBetter_133 (by decide) ?_
              refine z_iret0 C rfl rfl (by decide) (by decide) dX1_isBetter_149 ?_
              exact ⟨by rw [if_neg (by unfold keyV; split <;> split <;> omega)], rfl, rfl⟩
            · -- 125 not taken
              refine z_iconst C (nI 1) dX1_isBetter_128 (by decide) ?_
              refine z_goto C 149 dX1_isBetter_129 (by decide) ?_
              refine z_iret0 C rfl rfl (by decide) (by decide) dX1_isBetter_149 ?_
              exact ⟨by rw [if_pos (by unfold keyV; split <;> split <;> omega)], rfl, rfl⟩
        · -- 52 not taken
          refine z_iload_n C dX1_isBetter_55 rfl 2 rfl ?_
          refine z_aload_n C dX1_isBetter_56 rfl 1 rfl ?_
          refine z_get (ref := "Shedwheel$Search") (v := .int (nI bs)) C hin_X1_isBetter_X1 hL0 hF0 rfl 7 (by decide) (by decide +kernel) (fun _ h9 => h9) rfl dX1_isBetter_57 ?_
          refine z_icmp_ge C 67 (((bs : Nat) : Int) ≤ ((xs : Nat) : Int)) (zi_le (zi_N (n := bs) (by omega)) (zi_N (n := xs) (by omega))) dX1_isBetter_60 (by decide) (fun c14_ => ?_) (fun c14_ => ?_)
          · -- 60 taken
            refine z_iconst C (nI 0) dX1_isBetter_67 (by decide) ?_
            refine z_iret0 C rfl rfl (by decide) (by decide) dX1_isBetter_68 ?_
            exact ⟨by rw [if_neg (by unfold keyV; split <;> split <;> omega)], rfl, rfl⟩
          · -- 60 not taken
            refine z_iconst C (nI 1) dX1_isBetter_63 (by decide) ?_
            refine z_goto C 68 dX1_isBetter_64 (by decide) ?_
            refine z_iret0 C rfl rfl (by decide) (by decide) dX1_isBetter_68 ?_
            exact ⟨by rw [if_pos (by unfold keyV; split <;> split <;> omega)], rfl, rfl⟩
    · -- 25 not taken
      refine z_iconst C (nI 1) dX1_isBetter_28 (by decide) ?_
      refine z_goto C 33 dX1_isBetter_29 (by decide) ?_
      refine z_icmp_eq C 39 (((0 : Nat) : Int) = ((1 : Nat) : Int)) (zi_eq (zi_N (n := 0) (by omega)) (zi_N (n := 1) (by omega))) dX1_isBetter_33 (by decide) (fun c15_ => absurd c15_ (by omega)) (fun c15_ => ?_)
      refine z_iload C dX1_isBetter_36 0 rfl ?_
      refine z_iret0 C rfl rfl (by decide) (by decide) dX1_isBetter_38 ?_
      exact ⟨by rw [if_neg (by unfold keyV; split <;> split <;> omega)], rfl, rfl⟩
  · -- 5 not taken
    refine z_iconst C (nI 1) dX1_isBetter_8 (by decide) ?_
    refine z_goto C 13 dX1_isBetter_9 (by decide) ?_
    refine z_istore (lv' := [(4, .int (nI 1)), (0, .ref h0), (1, .int (nI xs)), (2, .int (nI xt)), (3, .int (nI xh))]) C dX1_isBetter_13 (by decide) rfl ?_
    refine z_iload C dX1_isBetter_15 0 rfl ?_
    refine z_aload_n C dX1_isBetter_17 rfl 1 rfl ?_
    refine z_get (ref := "Shedwheel$Search") (v := .int (nI bt)) C hin_X1_isBetter_X1 hL0 hF0 rfl 8 (by decide) (by decide +kernel) (fun _ h9 => h9) rfl dX1_isBetter_18 ?_
    refine z_aload_n C dX1_isBetter_21 rfl 1 rfl ?_
    refine z_get (ref := "Shedwheel$Search") (v := .int (nI nl)) C hin_X1_isBetter_X1 hL0 hF0 rfl 6 (by decide) (by decide +kernel) (fun _ h9 => h9) rfl dX1_isBetter_22 ?_
    refine z_icmp_gt C 32 (((nl : Nat) : Int) < ((bt : Nat) : Int)) (zi_lt (zi_N (n := nl) (by omega)) (zi_N (n := bt) (by omega))) dX1_isBetter_25 (by decide) (fun c16_ => ?_) (fun c16_ => ?_)
    · -- 25 taken
      refine z_iconst C (nI 0) dX1_isBetter_32 (by decide) ?_
      refine z_icmp_eq C 39 (((1 : Nat) : Int) = ((0 : Nat) : Int)) (zi_eq (zi_N (n := 1) (by omega)) (zi_N (n := 0) (by omega))) dX1_isBetter_33 (by decide) (fun c17_ => absurd c17_ (by omega)) (fun c17_ => ?_)
      refine z_iload C dX1_isBetter_36 0 rfl ?_
      refine z_iret0 C rfl rfl (by decide) (by decide) dX1_isBetter_38 ?_
      exact ⟨by rw [if_pos (by unfold keyV; split <;> split <;> omega)], rfl, rfl⟩
    · -- 25 not taken
      refine z_iconst C (nI 1) dX1_isBetter_28 (by decide) ?_
      refine z_goto C 33 dX1_isBetter_29 (by decide) ?_
      refine z_icmp_eq C 39 (((1 : Nat) : Int) = ((1 : Nat) : Int)) (zi_eq (zi_N (n := 1) (by omega)) (zi_N (n := 1) (by omega))) dX1_isBetter_33 (by decide) (fun c18_ => ?_) (fun c18_ => absurd c18_ (by omega))
      refine z_iload_n C dX1_isBetter_39 rfl 3 rfl ?_
      refine z_aload_n C dX1_isBetter_40 rfl 1 rfl ?_
      refine z_get (ref := "Shedwheel$Search") (v := .int (nI bt)) C hin_X1_isBetter_X1 hL0 hF0 rfl 8 (by decide) (by decide +kernel) (fun _ h9 => h9) rfl dX1_isBetter_41 ?_
      refine z_icmp_ne C 69 (((xt : Nat) : Int) = ((bt : Nat) : Int)) (zi_eq (zi_N (n := xt) (by omega)) (zi_N (n := bt) (by omega))) dX1_isBetter_44 (by decide) (fun c19_ => ?_) (fun c19_ => ?_)
      · -- 44 taken
        refine z_iload C dX1_isBetter_69 0 rfl ?_
        refine z_if_eq C 112 (((1 : Nat) : Int) = (0 : Int)) (zi_eq (zi_N (n := 1) (by omega)) zi_0) dX1_isBetter_71 (by decide) (fun c20_ => absurd c20_ (by omega)) (fun c20_ => ?_)
        refine z_iload_n C dX1_isBetter_74 rfl 4 rfl ?_
        refine z_aload_n C dX1_isBetter_75 rfl 1 rfl ?_
        refine z_get (ref := "Shedwheel$Search") (v := .int (nI bh)) C hin_X1_isBetter_X1 hL0 hF0 rfl 9 (by decide) (by decide +kernel) (fun _ h9 => h9) rfl dX1_isBetter_76 ?_
        refine z_icmp_eq C 98 (((xh : Nat) : Int) = ((bh : Nat) : Int)) (zi_eq (zi_N (n := xh) (by omega)) (zi_N (n := bh) (by omega))) dX1_isBetter_79 (by decide) (fun c21_ => ?_) (fun c21_ => ?_)
        · -- 79 taken
          refine z_iload_n C dX1_isBetter_98 rfl 3 rfl ?_
          refine z_aload_n C dX1_isBetter_99 rfl 1 rfl ?_
          refine z_get (ref := "Shedwheel$Search") (v := .int (nI bt)) C hin_X1_isBetter_X1 hL0 hF0 rfl 8 (by decide) (by decide +kernel) (fun _ h9 => h9) rfl dX1_isBetter_100 ?_
          refine z_icmp_ge C 110 (((bt : Nat) : Int) ≤ ((xt : Nat) : Int)) (zi_le (zi_N (n := bt) (by omega)) (zi_N (n := xt) (by omega))) dX1_isBetter_103 (by decide) (fun c22_ => ?_) (fun c22_ => ?_)
          · -- 103 taken
            refine z_iconst C (nI 0) dX1_isBetter_110 (by decide) ?_
            refine z_iret0 C rfl rfl (by decide) (by decide) dX1_isBetter_111 ?_
            exact ⟨by rw [if_neg (by unfold keyV; split <;> split <;> omega)], rfl, rfl⟩
          · -- 103 not taken
            refine z_iconst C (nI 1) dX1_isBetter_106 (by decide) ?_
            refine z_goto C 111 dX1_isBetter_107 (by decide) ?_
            refine z_iret0 C rfl rfl (by decide) (by decide) dX1_isBetter_111 ?_
            exact ⟨by rw [if_pos (by unfold keyV; split <;> split <;> omega)], rfl, rfl⟩
        · -- 79 not taken
          refine z_iload_n C dX1_isBetter_82 rfl 4 rfl ?_
          refine z_aload_n C dX1_isBetter_83 rfl 1 rfl ?_
          refine z_get (ref := "Shedwheel$Search") (v := .int (nI bh)) C hin_X1_isBetter_X1 hL0 hF0 rfl 9 (by decide) (by decide +kernel) (fun _ h9 => h9) rfl dX1_isBetter_84 ?_
          refine z_icmp_ge C 94 (((bh : Nat) : Int) ≤ ((xh : Nat) : Int)) (zi_le (zi_N (n := bh) (by omega)) (zi_N (n := xh) (by omega))) dX1_isBetter_87 (by decide) (fun c23_ => ?_) (fun c23_ => ?_)
          · -- 87 taken
            refine z_iconst C (nI 0) dX1_isBetter_94 (by decide) ?_
            refine z_goto C 111 dX1_isBetter_95 (by decide) ?_
            refine z_iret0 C rfl rfl (by decide) (by decide) dX1_isBetter_111 ?_
            exact ⟨by rw [if_neg (by unfold keyV; split <;> split <;> omega)], rfl, rfl⟩
          · -- 87 not taken
            refine z_iconst C (nI 1) dX1_isBetter_90 (by decide) ?_
            refine z_goto C 111 dX1_isBetter_91 (by decide) ?_
            refine z_iret0 C rfl rfl (by decide) (by decide) dX1_isBetter_111 ?_
            exact ⟨by rw [if_pos (by unfold keyV; split <;> split <;> omega)], rfl, rfl⟩
      · -- 44 not taken
        refine z_iload_n C dX1_isBetter_47 rfl 4 rfl ?_
        refine z_aload_n C dX1_isBetter_48 rfl 1 rfl ?_
        refine z_get (ref := "Shedwheel$Search") (v := .int (nI bh)) C hin_X1_isBetter_X1 hL0 hF0 rfl 9 (by decide) (by decide +kernel) (fun _ h9 => h9) rfl dX1_isBetter_49 ?_
        refine z_icmp_ne C 69 (((xh : Nat) : Int) = ((bh : Nat) : Int)) (zi_eq (zi_N (n := xh) (by omega)) (zi_N (n := bh) (by omega))) dX1_isBetter_52 (by decide) (fun c24_ => ?_) (fun c24_ => ?_)
        · -- 52 taken
          refine z_iload C dX1_isBetter_69 0 rfl ?_
          refine z_if_eq C 112 (((1 : Nat) : Int) = (0 : Int)) (zi_eq (zi_N (n := 1) (by omega)) zi_0) dX1_isBetter_71 (by decide) (fun c25_ => absurd c25_ (by omega)) (fun c25_ => ?_)
          refine z_iload_n C dX1_isBetter_74 rfl 4 rfl ?_
          refine z_aload_n C dX1_isBetter_75 rfl 1 rfl ?_
          refine z_get (ref := "Shedwheel$Search") (v := .int (nI bh)) C hin_X1_isBetter_X1 hL0 hF0 rfl 9 (by decide) (by decide +kernel) (fun _ h9 => h9) rfl dX1_isBetter_76 ?_
          refine z_icmp_eq C 98 (((xh : Nat) : Int) = ((bh : Nat) : Int)) (zi_eq (zi_N (n := xh) (by omega)) (zi_N (n := bh) (by omega))) dX1_isBetter_79 (by decide) (fun c26_ => ?_) (fun c26_ => ?_)
          · -- 79 taken
            refine z_iload_n C dX1_isBetter_98 rfl 3 rfl ?_
            refine z_aload_n C dX1_isBetter_99 rfl 1 rfl ?_
            refine z_get (ref := "Shedwheel$Search") (v := .int (nI bt)) C hin_X1_isBetter_X1 hL0 hF0 rfl 8 (by decide) (by decide +kernel) (fun _ h9 => h9) rfl dX1_isBetter_100 ?_
            refine z_icmp_ge C 110 (((bt : Nat) : Int) ≤ ((xt : Nat) : Int)) (zi_le (zi_N (n := bt) (by omega)) (zi_N (n := xt) (by omega))) dX1_isBetter_103 (by decide) (fun c27_ => ?_) (fun c27_ => ?_)
            · -- 103 taken
              refine z_iconst C (nI 0) dX1_isBetter_110 (by decide) ?_
              refine z_iret0 C rfl rfl (by decide) (by decide) dX1_isBetter_111 ?_
              exact ⟨by rw [if_neg (by unfold keyV; split <;> split <;> omega)], rfl, rfl⟩
            · -- 103 not taken
              refine z_iconst C (nI 1) dX1_isBetter_106 (by decide) ?_
              refine z_goto C 111 dX1_isBetter_107 (by decide) ?_
              refine z_iret0 C rfl rfl (by decide) (by decide) dX1_isBetter_111 ?_
              exact ⟨by rw [if_pos (by unfold keyV; split <;> split <;> omega)], rfl, rfl⟩
          · -- 79 not taken
            refine z_iload_n C dX1_isBetter_82 rfl 4 rfl ?_
            refine z_aload_n C dX1_isBetter_83 rfl 1 rfl ?_
            refine z_get (ref := "Shedwheel$Search") (v := .int (nI bh)) C hin_X1_isBetter_X1 hL0 hF0 rfl 9 (by decide) (by decide +kernel) (fun _ h9 => h9) rfl dX1_isBetter_84 ?_
            refine z_icmp_ge C 94 (((bh : Nat) : Int) ≤ ((xh : Nat) : Int)) (zi_le (zi_N (n := bh) (by omega)) (zi_N (n := xh) (by omega))) dX1_isBetter_87 (by decide) (fun c28_ => ?_) (fun c28_ => ?_)
            · -- 87 taken
              refine z_iconst C (nI 0) dX1_isBetter_94 (by decide) ?_
              refine z_goto C 111 dX1_isBetter_95 (by decide) ?_
              refine z_iret0 C rfl rfl (by decide) (by decide) dX1_isBetter_111 ?_
              exact ⟨by rw [if_neg (by unfold keyV; split <;> split <;> omega)], rfl, rfl⟩
            · -- 87 not taken
              refine z_iconst C (nI 1) dX1_isBetter_90 (by decide) ?_
              refine z_goto C 111 dX1_isBetter_91 (by decide) ?_
              refine z_iret0 C rfl rfl (by decide) (by decide) dX1_isBetter_111 ?_
              exact ⟨by rw [if_pos (by unfold keyV; split <;> split <;> omega)], rfl, rfl⟩
        · -- 52 not taken
          refine z_iload_n C dX1_isBetter_55 rfl 2 rfl ?_
          refine z_aload_n C dX1_isBetter_56 rfl 1 rfl ?_
          refine z_get (ref := "Shedwheel$Search") (v := .int (nI bs)) C hin_X1_isBetter_X1 hL0 hF0 rfl 7 (by decide) (by decide +kernel) (fun _ h9 => h9) rfl dX1_isBetter_57 ?_
          refine z_icmp_ge C 67 (((bs : Nat) : Int) ≤ ((xs : Nat) : Int)) (zi_le (zi_N (n := bs) (by omega)) (zi_N (n := xs) (by omega))) dX1_isBetter_60 (by decide) (fun c29_ => ?_) (fun c29_ => ?_)
          · -- 60 taken
            refine z_iconst C (nI 0) dX1_isBetter_67 (by decide) ?_
            refine z_iret0 C rfl rfl (by decide) (by decide) dX1_isBetter_68 ?_
            exact ⟨by rw [if_neg (by unfold keyV; split <;> split <;> omega)], rfl, rfl⟩
          · -- 60 not taken
            refine z_iconst C (nI 1) dX1_isBetter_63 (by decide) ?_
            refine z_goto C 68 dX1_isBetter_64 (by decide) ?_
            refine z_iret0 C rfl rfl (by decide) (by decide) dX1_isBetter_68 ?_
            exact ⟨by rw [if_pos (by unfold keyV; split <;> split <;> omega)], rfl, rfl⟩

set_option maxRecDepth 100000 in
theorem hin_X1_weigh_X1 : ∀ w ∈ u_ws RX1 TX1 10, w ∈ wsX1_weigh := by decide +kernel
set_option maxHeartbeats 4000000 in
set_option maxRecDepth 100000 in
theorem c_X1_weigh (l : Launch) (hlst : l.stackTraces = false) (G : zGt) (L : List Nat) (F : Nat → va_E) (h0 b4 b5 b6 b7 : Nat) (cnt sf nl bs bt bh : Nat) (hL0 : h0 ∈ L) (hF0 : F h0 = .inr (2, [.ref b4, .ref b5, .ref b6, .ref b7, .int (nI cnt), .int (nI sf), .int (nI nl), .int (nI bs), .int (nI bt), .int (nI bh)])) (xs xt xh : Nat) (hs : xs < 4096) (ht : xt < 1048576) (hh : xh < 1048576) (hbs : bs < 4096) (hbt : bt < 1048576) (hbh : bh < 1048576) (hnl : nl < 1048576) : zM l yX1_weigh wsX1_weigh 2 48 0 0 G L F [.ref h0, .int (nI xs), .int (nI xt), .int (nI xh)] (fun rv L1 F1 => rv = none ∧ L1 = L ∧ F1 h0 = .inr (2, [.ref b4, .ref b5, .ref b6, .ref b7, .int (nI (cnt)), .int (nI (sf)), .int (nI (nl)), .int (nI ((wgV nl (xs, xt, xh) (bs, bt, bh)).1)), .int (nI ((wgV nl (xs, xt, xh) (bs, bt, bh)).2.1)), .int (nI ((wgV nl (xs, xt, xh) (bs, bt, bh)).2.2))]) ∧ ∀ b, b ≠ h0 → F1 b = F b) := by
  refine z_of (cc := cX1_weigh) (nL := 4) (ret := none) (own := RX1) hlst (by decide +kernel) rfl rfl (Nat.le_of_ble_eq_true rfl) ?_
  intro p e s m below meth c A hnm C
  refine z_lvs (lv' := [(0, .ref h0), (1, .int (nI xs)), (2, .int (nI xt)), (3, .int (nI xh))]) rfl ?_
  refine z_aload_n C dX1_weigh_0 rfl 0 rfl ?_
  refine z_get (ref := "Shedwheel$Search") (v := .int (nI bs)) C hin_X1_weigh_X1 hL0 hF0 rfl 7 (by decide) (by decide +kernel) (fun _ h9 => h9) rfl dX1_weigh_1 ?_
  refine z_if_eq C 17 (((bs : Nat) : Int) = (0 : Int)) (zi_eq (zi_N (n := bs) (by omega)) zi_0) dX1_weigh_4 (by decide) (fun c1_ => ?_) (fun c1_ => ?_)
  · -- 4 taken
    refine z_aload_n C dX1_weigh_17 rfl 0 rfl ?_
    refine z_iload_n C dX1_weigh_18 rfl 1 rfl ?_
    refine z_put (ref := "Shedwheel$Search") (v := .int (nI xs)) (fs' := [.ref b4, .ref b5, .ref b6, .ref b7, .int (nI cnt), .int (nI sf), .int (nI nl), .int (nI xs), .int (nI bt), .int (nI bh)]) C hin_X1_weigh_X1 tyX1 tyX1_ok nmX1 hL0 hF0 rfl 7 (by decide) (by decide +kernel) (fun _ h9 => h9) rfl rfl rfl (Nat.le_of_ble_eq_true rfl) rfl dX1_weigh_19 (fun F2_ h3_ k4_ => ?_)
    have kc5_ : ∀ b, b ≠ h0 → F2_ b = F b := fun b q0 => k4_ b q0
    refine z_aload_n C dX1_weigh_22 rfl 0 rfl ?_
    refine z_iload_n C dX1_weigh_23 rfl 2 rfl ?_
    refine z_put (ref := "Shedwheel$Search") (v := .int (nI xt)) (fs' := [.ref b4, .ref b5, .ref b6, .ref b7, .int (nI cnt), .int (nI sf), .int (nI nl), .int (nI xs), .int (nI xt), .int (nI bh)]) C hin_X1_weigh_X1 tyX1 tyX1_ok nmX1 hL0 h3_ rfl 8 (by decide) (by decide +kernel) (fun _ h9 => h9) rfl rfl rfl (Nat.le_of_ble_eq_true rfl) rfl dX1_weigh_24 (fun F6_ h7_ k8_ => ?_)
    have kc9_ : ∀ b, b ≠ h0 → F6_ b = F b := fun b q0 => (k8_ b q0).trans (kc5_ b q0)
    refine z_aload_n C dX1_weigh_27 rfl 0 rfl ?_
    refine z_iload_n C dX1_weigh_28 rfl 3 rfl ?_
    refine z_put (ref := "Shedwheel$Search") (v := .int (nI xh)) (fs' := [.ref b4, .ref b5, .ref b6, .ref b7, .int (nI cnt), .int (nI sf), .int (nI nl), .int (nI xs), .int (nI xt), .int (nI xh)]) C hin_X1_weigh_X1 tyX1 tyX1_ok nmX1 hL0 h7_ rfl 9 (by decide) (by decide +kernel) (fun _ h9 => h9) rfl rfl rfl (Nat.le_of_ble_eq_true rfl) rfl dX1_weigh_29 (fun F10_ h11_ k12_ => ?_)
    have kc13_ : ∀ b, b ≠ h0 → F10_ b = F b := fun b q0 => (k12_ b q0).trans (kc9_ b q0)
    refine z_vret0 C rfl (by decide) (by decide) dX1_weigh_32 ?_
    have e9 : (wgV nl (xs, xt, xh) (bs, bt, bh)) = (xs, xt, xh) := by rw [wgV, if_pos (by dsimp only; omega)]
    exact ⟨rfl, rfl, by rw [e9]; exact h11_, kc13_⟩
  · -- 4 not taken
    refine z_aload_n C dX1_weigh_7 rfl 0 rfl ?_
    refine z_iload_n C dX1_weigh_8 rfl 1 rfl ?_
    refine z_iload_n C dX1_weigh_9 rfl 2 rfl ?_
    refine z_iload_n C dX1_weigh_10 rfl 3 rfl ?_
    refine z_callV (As := [.int (nI xs), .int (nI xt), .int (nI xh)]) (st := []) (mc := 0) (ms := 0) C hL0 hF0 rfl (c_X1_isBetter l hlst G L F h0 b4 b5 b6 b7 cnt sf nl bs bt bh hL0 hF0 xs xt xh (by omega) (by omega) (by omega) (by omega) (by omega) (by omega) (by omega)) (cwV 3 C.1.2.2.2.2 gX1_weigh_X1_isBetter rfl rfl rfl (by decide +kernel) ⟨Nat.le_of_ble_eq_true rfl, Nat.le_of_ble_eq_true rfl⟩) rfl (Nat.le_of_ble_eq_true rfl) ⟨Nat.le_of_ble_eq_true rfl, Nat.le_of_ble_eq_true rfl⟩ dX1_weigh_11 (z_p ?_)
    refine z_stk (st' := [.int (nI (if keyV nl xt xh xs < keyV nl bt bh bs then 1 else 0))]) rfl ?_
    refine z_if_eq C 32 (¬ (keyV nl xt xh xs < keyV nl bt bh bs)) (zif_iff) dX1_weigh_14 (by decide) (fun c14_ => ?_) (fun c14_ => ?_)
    · -- 14 taken
      refine z_vret0 C rfl (by decide) (by decide) dX1_weigh_32 ?_
      have e9 : (wgV nl (xs, xt, xh) (bs, bt, bh)) = (bs, bt, bh) := by rw [wgV, if_neg (by dsimp only; omega)]
      exact ⟨rfl, rfl, by rw [e9]; exact hF0, fun _ _ => rfl⟩
    · -- 14 not taken
      refine z_aload_n C dX1_weigh_17 rfl 0 rfl ?_
      refine z_iload_n C dX1_weigh_18 rfl 1 rfl ?_
      refine z_put (ref := "Shedwheel$Search") (v := .int (nI xs)) (fs' := [.ref b4, .ref b5, .ref b6, .ref b7, .int (nI cnt), .int (nI sf), .int (nI nl), .int (nI xs), .int (nI bt), .int (nI bh)]) C hin_X1_weigh_X1 tyX1 tyX1_ok nmX1 hL0 hF0 rfl 7 (by decide) (by decide +kernel) (fun _ h9 => h9) rfl rfl rfl (Nat.le_of_ble_eq_true rfl) rfl dX1_weigh_19 (fun F15_ h16_ k17_ => ?_)
      have kc18_ : ∀ b, b ≠ h0 → F15_ b = F b := fun b q0 => k17_ b q0
      refine z_aload_n C dX1_weigh_22 rfl 0 rfl ?_
      refine z_iload_n C dX1_weigh_23 rfl 2 rfl ?_
      refine z_put (ref := "Shedwheel$Search") (v := .int (nI xt)) (fs' := [.ref b4, .ref b5, .ref b6, .ref b7, .int (nI cnt), .int (nI sf), .int (nI nl), .int (nI xs), .int (nI xt), .int (nI bh)]) C hin_X1_weigh_X1 tyX1 tyX1_ok nmX1 hL0 h16_ rfl 8 (by decide) (by decide +kernel) (fun _ h9 => h9) rfl rfl rfl (Nat.le_of_ble_eq_true rfl) rfl dX1_weigh_24 (fun F19_ h20_ k21_ => ?_)
      have kc22_ : ∀ b, b ≠ h0 → F19_ b = F b := fun b q0 => (k21_ b q0).trans (kc18_ b q0)
      refine z_aload_n C dX1_weigh_27 rfl 0 rfl ?_
      refine z_iload_n C dX1_weigh_28 rfl 3 rfl ?_
      refine z_put (ref := "Shedwheel$Search") (v := .int (nI xh)) (fs' := [.ref b4, .ref b5, .ref b6, .ref b7, .int (nI cnt), .int (nI sf), .int (nI nl), .int (nI xs), .int (nI xt), .int (nI xh)]) C hin_X1_weigh_X1 tyX1 tyX1_ok nmX1 hL0 h20_ rfl 9 (by decide) (by decide +kernel) (fun _ h9 => h9) rfl rfl rfl (Nat.le_of_ble_eq_true rfl) rfl dX1_weigh_29 (fun F23_ h24_ k25_ => ?_)
      have kc26_ : ∀ b, b ≠ h0 → F23_ b = F b := fun b q0 => (k25_ b q0).trans (kc22_ b q0)
      refine z_vret0 C rfl (by decide) (by decide) dX1_weigh_32 ?_
      have e9 : (wgV nl (xs, xt, xh) (bs, bt, bh)) = (xs, xt, xh) := by rw [wgV, if_pos (by dsimp only; omega)]
      exact ⟨rfl, rfl, by rw [e9]; exact h24_, kc26_⟩

set_option maxRecDepth 100000 in
theorem hin_X1_walk_X1 : ∀ w ∈ u_ws RX1 TX1 10, w ∈ wsX1_walk := by decide +kernel
set_option maxHeartbeats 4000000 in
set_option maxRecDepth 100000 in
theorem c_X1_walk (l : Launch) (hlst : l.stackTraces = false) (G : zGt) (L : List Nat) (h0 b4 b5 b6 b7 : Nat) (cnt sf nl : Nat) (f4 f5 f6 f7 : Nat → Int32) (nu tk hr : Nat → Nat) (hL0 : h0 ∈ L) (hL4 : b4 ∈ L) (hL5 : b5 ∈ L) (hL6 : b6 ∈ L) (hL7 : b7 ∈ L) (hk : wkOk nu tk hr cnt) (g4 : ∀ i, i < cnt → f4 i = nI (2 ^ nu i) ∧ f5 i = nI (tk i) ∧ f6 i = nI (hr i)) (g7 : ∀ i, i ≤ cnt → f7 i = nI (smV tk i)) (hsf : 1 ≤ sf ∧ sf ≤ 100000) (hnl : nl < 1048576) : ∀ (N : Nat) (F : Nat → va_E) (op xs xt xh bs bt bh : Nat), F h0 = .inr (2, [.ref b4, .ref b5, .ref b6, .ref b7, .int (nI cnt), .int (nI sf), .int (nI nl), .int (nI bs), .int (nI bt), .int (nI bh)]) → F b4 = .inl (G.2.1, 12, .inl f4) → F b5 = .inl (G.2.1, 12, .inl f5) → F b6 = .inl (G.2.1, 12, .inl f6) → F b7 = .inl (G.2.1, 13, .inl f7) → op ≤ cnt → xOk nu op (xs, xt, xh) → bdV (bs, bt, bh) → op < N → zM l yX1_walk wsX1_walk (op + 4) (30 * op + 200) 0 0 G L F [.ref h0, .int (nI op), .int (nI xs), .int (nI xt), .int (nI xh)] (fun rv L1 F1 => rv = none ∧ L1 = L ∧ F1 h0 = .inr (2, [.ref b4, .ref b5, .ref b6, .ref b7, .int (nI (cnt)), .int (nI (sf)), .int (nI (nl)), .int (nI ((wkV nl sf nu tk hr op (xs, xt, xh) (bs, bt, bh)).1)), .int (nI ((wkV nl sf nu tk hr op (xs, xt, xh) (bs, bt, bh)).2.1)), .int (nI ((wkV nl sf nu tk hr op (xs, xt, xh) (bs, bt, bh)).2.2))]) ∧ ∀ b, b ≠ h0 → F1 b = F b) := by
  intro N
  induction N with
  | zero => intro F op xs xt xh bs bt bh _ _ _ _ _ _ _ _ h9; exact absurd h9 (Nat.not_lt_zero _)
  | succ N ih =>
    intro F op xs xt xh bs bt bh hF0 hF4 hF5 hF6 hF7 hop hxo hbd hN
    obtain ⟨hx1, hx2, hx3, hx4⟩ := id hxo
    obtain ⟨hb1, hb2, hb3⟩ := id hbd
    dsimp only at hx2 hx3 hx4 hb1 hb2 hb3
    have hcn := hk.1
    have hsm : smV tk op ≤ op * 1998 := smV_le (fun i hi => (hk.2.1 i (by omega)).2.1)
    refine z_of (cc := cX1_walk) (nL := 6) (ret := none) (own := RX1) hlst (by decide +kernel) rfl rfl (Nat.le_of_ble_eq_true rfl) ?_
    intro p e s m below meth c A hnm C
    refine z_lvs (lv' := [(0, .ref h0), (1, .int (nI op)), (2, .int (nI xs)), (3, .int (nI xt)), (4, .int (nI xh))]) rfl ?_
    refine z_iload_n C dX1_walk_0 rfl 3 rfl ?_
    refine z_aload_n C dX1_walk_1 rfl 0 rfl ?_
    refine z_get (ref := "Shedwheel$Search") (v := .int (nI sf)) C hin_X1_walk_X1 hL0 hF0 rfl 5 (by decide) (by decide +kernel) (fun _ h9 => h9) rfl dX1_walk_2 ?_
    refine z_icmp_lt C 17 (((xt : Nat) : Int) < ((sf : Nat) : Int)) (zi_lt (zi_N (n := xt) (by omega)) (zi_N (n := sf) (by omega))) dX1_walk_5 (by decide) (fun c1_ => ?_) (fun c1_ => ?_)
    · -- 5 taken
      refine z_iload_n C dX1_walk_17 rfl 1 rfl ?_
      refine z_iconst C (nI 1) dX1_walk_18 (by decide) ?_
      refine z_icmp_lt C 43 (((op : Nat) : Int) < ((1 : Nat) : Int)) (zi_lt (zi_N (n := op) (by omega)) (zi_N (n := 1) (by omega))) dX1_walk_19 (by decide) (fun c2_ => ?_) (fun c2_ => ?_)
      · -- 19 taken
        refine z_vret0 C rfl (by decide) (by decide) dX1_walk_43 ?_
        have e9 := wkV_cut (nl := nl) (nu := nu) (tk := tk) (hr := hr) (o := op) (x := (xs, xt, xh)) (b := (bs, bt, bh)) (show ¬ sf ≤ xt by omega) (show op = 0 ∨ xt + smV tk op < sf by omega)
        exact ⟨rfl, rfl, by rw [e9]; exact hF0, fun _ _ => rfl⟩
      · -- 19 not taken
        refine z_iload_n C dX1_walk_22 rfl 1 rfl ?_
        refine z_bipush C (nI 12) dX1_walk_23 (by decide) ?_
        refine z_icmp_gt C 43 (((12 : Nat) : Int) < ((op : Nat) : Int)) (zi_lt (zi_N (n := 12) (by omega)) (zi_N (n := op) (by omega))) dX1_walk_25 (by decide) (fun c3_ => absurd c3_ (by omega)) (fun c3_ => ?_)
        refine z_iload_n C dX1_walk_28 rfl 3 rfl ?_
        refine z_aload_n C dX1_walk_29 rfl 0 rfl ?_
        refine z_get (ref := "Shedwheel$Search") (v := .ref b7) C hin_X1_walk_X1 hL0 hF0 rfl 3 (by decide) (by decide +kernel) (fun _ h9 => h9) rfl dX1_walk_30 ?_
        refine z_iload_n C dX1_walk_33 rfl 1 rfl ?_
        refine z_iald C hL7 hF7 (by omega) (by omega) dX1_walk_34 (nI (smV tk op)) (g7 op (by omega)) ?_
        refine z_iadd C (nI (xt + smV tk op)) dX1_walk_35 (nI_add xt (smV tk op)) ?_
        refine z_aload_n C dX1_walk_36 rfl 0 rfl ?_
        refine z_get (ref := "Shedwheel$Search") (v := .int (nI sf)) C hin_X1_walk_X1 hL0 hF0 rfl 5 (by decide) (by decide +kernel) (fun _ h9 => h9) rfl dX1_walk_37 ?_
        refine z_icmp_ge C 44 (((sf : Nat) : Int) ≤ ((xt + smV tk op : Nat) : Int)) (zi_le (zi_N (n := sf) (by omega)) (zi_N (n := xt + smV tk op) (by omega))) dX1_walk_40 (by decide) (fun c4_ => ?_) (fun c4_ => ?_)
        · -- 40 taken
          refine z_iload_n C dX1_walk_44 rfl 1 rfl ?_
          refine z_iconst C (nI 1) dX1_walk_45 (by decide) ?_
          refine z_isub C (nI (op - 1)) dX1_walk_46 (pk_sub (a := op) (b := 1) (by omega)) ?_
          refine z_istore (lv' := [(5, .int (nI (op - 1))), (0, .ref h0), (1, .int (nI op)), (2, .int (nI xs)), (3, .int (nI xt)), (4, .int (nI xh))]) C dX1_walk_47 (by decide) rfl ?_
          refine z_aload_n C dX1_walk_49 rfl 1 rfl ?_
          refine z_iload C dX1_walk_50 0 rfl ?_
          refine z_iload_n C dX1_walk_52 rfl 3 rfl ?_
          refine z_iload_n C dX1_walk_53 rfl 4 rfl ?_
          refine z_iload C dX1_walk_54 5 rfl ?_
          refine z_callS (As := [.ref h0, .int (nI (op - 1)), .int (nI xs), .int (nI xt), .int (nI xh)]) (st := []) (mc := 0) (ms := 0) C (ih F (op - 1) xs xt xh bs bt bh hF0 hF4 hF5 hF6 hF7 (by omega) hxo.stay hbd (by omega)) (va_cwS 5 C.1.2.2.2.2 gX1_walk_X1_walk rfl rfl rfl (by decide +kernel) ⟨by dsimp only; omega, by dsimp only; omega⟩) rfl (Nat.le_of_ble_eq_true rfl) ⟨Nat.le_of_ble_eq_true rfl, Nat.le_of_ble_eq_true rfl⟩ dX1_walk_56 (fun rv5_ L6_ F7_ hp8_ => ?_)
          obtain ⟨e9_, e10_, h11_, k12_⟩ := hp8_
          rw [e9_, e10_]
          have h13_ : F7_ b4 = .inl (G.2.1, 12, .inl f4) := (k12_ b4 (zne hF4 hF0 rfl)).trans hF4
          have h14_ : F7_ b5 = .inl (G.2.1, 12, .inl f5) := (k12_ b5 (zne hF5 hF0 rfl)).trans hF5
          have h15_ : F7_ b6 = .inl (G.2.1, 12, .inl f6) := (k12_ b6 (zne hF6 hF0 rfl)).trans hF6
          have h16_ : F7_ b7 = .inl (G.2.1, 13, .inl f7) := (k12_ b7 (zne hF7 hF0 rfl)).trans hF7
          have kc17_ : ∀ b, b ≠ h0 → F7_ b = F b := fun b q0 => k12_ b q0
          refine z_stk (st' := []) rfl ?_
          refine z_aload_n C dX1_walk_59 rfl 1 rfl ?_
          refine z_iload C dX1_walk_60 0 rfl ?_
          refine z_iload_n C dX1_walk_62 rfl 3 rfl ?_
          refine z_aload_n C dX1_walk_63 rfl 1 rfl ?_
          refine z_get (ref := "Shedwheel$Search") (v := .ref b4) C hin_X1_walk_X1 hL0 h11_ rfl 0 (by decide) (by decide +kernel) (fun _ h9 => h9) rfl dX1_walk_64 ?_
          refine z_iload C dX1_walk_67 0 rfl ?_
          refine z_iald C hL4 h13_ (by omega) (by omega) dX1_walk_69 (nI (2 ^ nu (op - 1))) ((g4 (op - 1) (by omega)).1) ?_
          refine z_ior C (nI (xs + 2 ^ nu (op - 1))) dX1_walk_70 ((nI_or _ _).trans (congrArg nI (or_pow (hx1 (op - 1) (by omega))))) ?_
          refine z_iload_n C dX1_walk_71 rfl 4 rfl ?_
          refine z_aload_n C dX1_walk_72 rfl 1 rfl ?_
          refine z_get (ref := "Shedwheel$Search") (v := .ref b5) C hin_X1_walk_X1 hL0 h11_ rfl 1 (by decide) (by decide +kernel) (fun _ h9 => h9) rfl dX1_walk_73 ?_
          refine z_iload C dX1_walk_76 0 rfl ?_
          refine z_iald C hL5 h14_ (by omega) (by omega) dX1_walk_78 (nI (tk (op - 1))) ((g4 (op - 1) (by omega)).2.1) ?_
          refine z_iadd C (nI (xt + tk (op - 1))) dX1_walk_79 (nI_add xt (tk (op - 1))) ?_
          refine z_iload C dX1_walk_80 5 rfl ?_
          refine z_aload_n C dX1_walk_82 rfl 1 rfl ?_
          refine z_get (ref := "Shedwheel$Search") (v := .ref b6) C hin_X1_walk_X1 hL0 h11_ rfl 2 (by decide) (by decide +kernel) (fun _ h9 => h9) rfl dX1_walk_83 ?_
          refine z_iload C dX1_walk_86 0 rfl ?_
          refine z_iald C hL6 h15_ (by omega) (by omega) dX1_walk_88 (nI (hr (op - 1))) ((g4 (op - 1) (by omega)).2.2) ?_
          refine z_iadd C (nI (xh + hr (op - 1))) dX1_walk_89 (nI_add xh (hr (op - 1))) ?_
          refine z_callS (As := [.ref h0, .int (nI (op - 1)), .int (nI (xs + 2 ^ nu (op - 1))), .int (nI (xt + tk (op - 1))), .int (nI (xh + hr (op - 1)))]) (st := []) (mc := 0) (ms := 0) C (ih F7_ (op - 1) (xs + 2 ^ nu (op - 1)) (xt + tk (op - 1)) (xh + hr (op - 1)) ((wkV nl sf nu tk hr (op - 1) (xs, xt, xh) (bs, bt, bh)).1) ((wkV nl sf nu tk hr (op - 1) (xs, xt, xh) (bs, bt, bh)).2.1) ((wkV nl sf nu tk hr (op - 1) (xs, xt, xh) (bs, bt, bh)).2.2) h11_ h13_ h14_ h15_ h16_ (by omega) (hxo.go hk (by omega) hop) (bdV_wk hk _ _ _ (by omega) hxo.stay hbd) (by omega)) (va_cwS 5 C.1.2.2.2.2 gX1_walk_X1_walk rfl rfl rfl (by decide +kernel) ⟨by dsimp only; omega, by dsimp only; omega⟩) rfl (Nat.le_of_ble_eq_true rfl) ⟨Nat.le_of_ble_eq_true rfl, Nat.le_of_ble_eq_true rfl⟩ dX1_walk_90 (fun rv18_ L19_ F20_ hp21_ => ?_)
          obtain ⟨e22_, e23_, h24_, k25_⟩ := hp21_
          rw [e22_, e23_]
          have h26_ : F20_ b4 = .inl (G.2.1, 12, .inl f4) := (k25_ b4 (zne h13_ h11_ rfl)).trans h13_
          have h27_ : F20_ b5 = .inl (G.2.1, 12, .inl f5) := (k25_ b5 (zne h14_ h11_ rfl)).trans h14_
          have h28_ : F20_ b6 = .inl (G.2.1, 12, .inl f6) := (k25_ b6 (zne h15_ h11_ rfl)).trans h15_
          have h29_ : F20_ b7 = .inl (G.2.1, 13, .inl f7) := (k25_ b7 (zne h16_ h11_ rfl)).trans h16_
          have kc30_ : ∀ b, b ≠ h0 → F20_ b = F b := fun b q0 => (k25_ b q0).trans (kc17_ b q0)
          refine z_stk (st' := []) rfl ?_
          refine z_vret0 C rfl (by decide) (by decide) dX1_walk_93 ?_
          have e9 := wkV_go (nl := nl) (nu := nu) (tk := tk) (hr := hr) (o := op) (x := (xs, xt, xh)) (b := (bs, bt, bh)) (show ¬ sf ≤ xt by omega) (by omega) (show ¬ xt + smV tk op < sf by omega)
          exact ⟨rfl, rfl, by rw [e9]; exact h24_, kc30_⟩
        · -- 40 not taken
          refine z_vret0 C rfl (by decide) (by decide) dX1_walk_43 ?_
          have e9 := wkV_cut (nl := nl) (nu := nu) (tk := tk) (hr := hr) (o := op) (x := (xs, xt, xh)) (b := (bs, bt, bh)) (show ¬ sf ≤ xt by omega) (show op = 0 ∨ xt + smV tk op < sf by omega)
          exact ⟨rfl, rfl, by rw [e9]; exact hF0, fun _ _ => rfl⟩
    · -- 5 not taken
      refine z_aload_n C dX1_walk_8 rfl 0 rfl ?_
      refine z_iload_n C dX1_walk_9 rfl 2 rfl ?_
      refine z_iload_n C dX1_walk_10 rfl 3 rfl ?_
      refine z_iload C dX1_walk_11 4 rfl ?_
      refine z_callV (As := [.int (nI xs), .int (nI xt), .int (nI xh)]) (st := []) (mc := 0) (ms := 0) C hL0 hF0 rfl (c_X1_weigh l hlst G L F h0 b4 b5 b6 b7 cnt sf nl bs bt bh hL0 hF0 xs xt xh (by omega) (by omega) (by omega) (by omega) (by omega) (by omega) (by omega) ) (cwV 3 C.1.2.2.2.2 gX1_walk_X1_weigh rfl rfl rfl (by decide +kernel) ⟨by dsimp only; omega, by dsimp only; omega⟩) rfl (Nat.le_of_ble_eq_true rfl) ⟨Nat.le_of_ble_eq_true rfl, Nat.le_of_ble_eq_true rfl⟩ dX1_walk_13 (fun rv31_ L32_ F33_ hp34_ => ?_)
      obtain ⟨e35_, e36_, h37_, k38_⟩ := hp34_
      rw [e35_, e36_]
      have h39_ : F33_ b4 = .inl (G.2.1, 12, .inl f4) := (k38_ b4 (zne hF4 hF0 rfl)).trans hF4
      have h40_ : F33_ b5 = .inl (G.2.1, 12, .inl f5) := (k38_ b5 (zne hF5 hF0 rfl)).trans hF5
      have h41_ : F33_ b6 = .inl (G.2.1, 12, .inl f6) := (k38_ b6 (zne hF6 hF0 rfl)).trans hF6
      have h42_ : F33_ b7 = .inl (G.2.1, 13, .inl f7) := (k38_ b7 (zne hF7 hF0 rfl)).trans hF7
      have kc43_ : ∀ b, b ≠ h0 → F33_ b = F b := fun b q0 => k38_ b q0
      refine z_stk (st' := []) rfl ?_
      refine z_vret0 C rfl (by decide) (by decide) dX1_walk_16 ?_
      have e9 := wkV_meet (nl := nl) (nu := nu) (tk := tk) (hr := hr) (o := op) (x := (xs, xt, xh)) (b := (bs, bt, bh)) (show sf ≤ xt by omega)
      exact ⟨rfl, rfl, by rw [e9]; exact h37_, kc43_⟩

set_option maxRecDepth 100000 in
theorem hin_X1_bestByWalking_X1 : ∀ w ∈ u_ws RX1 TX1 10, w ∈ wsX1_bestByWalking := by decide +kernel
set_option maxHeartbeats 4000000 in
set_option maxRecDepth 100000 in
theorem c_X1_bestByWalking (l : Launch) (hlst : l.stackTraces = false) (G : zGt) (L : List Nat) (F : Nat → va_E) (h0 b4 b5 b6 b7 : Nat) (cnt sf nl : Nat) (f4 f5 f6 f7 : Nat → Int32) (nu tk hr : Nat → Nat) (hL0 : h0 ∈ L) (hL4 : b4 ∈ L) (hL5 : b5 ∈ L) (hL6 : b6 ∈ L) (hL7 : b7 ∈ L) (hk : wkOk nu tk hr cnt) (g4 : ∀ i, i < cnt → f4 i = nI (2 ^ nu i) ∧ f5 i = nI (tk i) ∧ f6 i = nI (hr i)) (g7 : ∀ i, i ≤ cnt → f7 i = nI (smV tk i)) (hsf : 1 ≤ sf ∧ sf ≤ 100000) (hnl : nl < 1048576) (bs bt bh : Nat) (hF0 : F h0 = .inr (2, [.ref b4, .ref b5, .ref b6, .ref b7, .int (nI cnt), .int (nI sf), .int (nI nl), .int (nI bs), .int (nI bt), .int (nI bh)])) (hF4 : F b4 = .inl (G.2.1, 12, .inl f4)) (hF5 : F b5 = .inl (G.2.1, 12, .inl f5)) (hF6 : F b6 = .inl (G.2.1, 12, .inl f6)) (hF7 : F b7 = .inl (G.2.1, 13, .inl f7)) (hbd : bdV (bs, bt, bh))  : zM l yX1_bestByWalking wsX1_bestByWalking 20 620 0 0 G L F [.ref h0] (fun rv L1 F1 => rv = some (.int (nI (wkV nl sf nu tk hr cnt (0, 0, 0) (bs, bt, bh)).1)) ∧ L1 = L ∧ F1 h0 = .inr (2, [.ref b4, .ref b5, .ref b6, .ref b7, .int (nI (cnt)), .int (nI (sf)), .int (nI (nl)), .int (nI ((wkV nl sf nu tk hr cnt (0, 0, 0) (bs, bt, bh)).1)), .int (nI ((wkV nl sf nu tk hr cnt (0, 0, 0) (bs, bt, bh)).2.1)), .int (nI ((wkV nl sf nu tk hr cnt (0, 0, 0) (bs, bt, bh)).2.2))]) ∧ ∀ b, b ≠ h0 → F1 b = F b) := by
  have hcn := hk.1
  refine z_of (cc := cX1_bestByWalking) (nL := 1) (ret := (some .int)) (own := RX1) hlst (by decide +kernel) rfl rfl (Nat.le_of_ble_eq_true rfl) ?_
  intro p e s m below meth c A hnm C
  refine z_lvs (lv' := [(0, .ref h0)]) rfl ?_
  refine z_aload_n C dX1_bestByWalking_0 rfl 0 rfl ?_
  refine z_aload_n C dX1_bestByWalking_1 rfl 0 rfl ?_
  refine z_get (ref := "Shedwheel$Search") (v := .int (nI cnt)) C hin_X1_bestByWalking_X1 hL0 hF0 rfl 4 (by decide) (by decide +kernel) (fun _ h9 => h9) rfl dX1_bestByWalking_2 ?_
  refine z_iconst C (nI 0) dX1_bestByWalking_5 (by decide) ?_
  refine z_iconst C (nI 0) dX1_bestByWalking_6 (by decide) ?_
  refine z_iconst C (nI 0) dX1_bestByWalking_7 (by decide) ?_
  refine z_callS (As := [.ref h0, .int (nI cnt), .int (nI 0), .int (nI 0), .int (nI 0)]) (st := []) (mc := 0) (ms := 0) C (c_X1_walk l hlst G L h0 b4 b5 b6 b7 cnt sf nl f4 f5 f6 f7 nu tk hr hL0 hL4 hL5 hL6 hL7 hk g4 g7 hsf hnl (cnt + 1) F cnt 0 0 0 bs bt bh hF0 hF4 hF5 hF6 hF7 (by omega) (xOk0 _ _ (by omega)) hbd (by omega)) (va_cwS 5 C.1.2.2.2.2 gX1_bestByWalking_X1_walk rfl rfl rfl (by decide +kernel) ⟨by dsimp only; omega, by dsimp only; omega⟩) rfl (Nat.le_of_ble_eq_true rfl) ⟨Nat.le_of_ble_eq_true rfl, Nat.le_of_ble_eq_true rfl⟩ dX1_bestByWalking_8 (fun rv1_ L2_ F3_ hp4_ => ?_)
  obtain ⟨e5_, e6_, h7_, k8_⟩ := hp4_
  rw [e5_, e6_]
  have h9_ : F3_ b4 = .inl (G.2.1, 12, .inl f4) := (k8_ b4 (zne hF4 hF0 rfl)).trans hF4
  have h10_ : F3_ b5 = .inl (G.2.1, 12, .inl f5) := (k8_ b5 (zne hF5 hF0 rfl)).trans hF5
  have h11_ : F3_ b6 = .inl (G.2.1, 12, .inl f6) := (k8_ b6 (zne hF6 hF0 rfl)).trans hF6
  have h12_ : F3_ b7 = .inl (G.2.1, 13, .inl f7) := (k8_ b7 (zne hF7 hF0 rfl)).trans hF7
  have kc13_ : ∀ b, b ≠ h0 → F3_ b = F b := fun b q0 => k8_ b q0
  refine z_stk (st' := []) rfl ?_
  refine z_aload_n C dX1_bestByWalking_11 rfl 0 rfl ?_
  refine z_get (ref := "Shedwheel$Search") (v := .int (nI ((wkV nl sf nu tk hr cnt (0, 0, 0) (bs, bt, bh)).1))) C hin_X1_bestByWalking_X1 hL0 h7_ rfl 7 (by decide) (by decide +kernel) (fun _ h9 => h9) rfl dX1_bestByWalking_12 ?_
  refine z_iret0 C rfl rfl (by decide) (by decide) dX1_bestByWalking_15 ?_
  exact ⟨rfl, rfl, h7_, kc13_⟩

set_option maxHeartbeats 4000000 in
set_option maxRecDepth 100000 in
theorem c_X2_holds (l : Launch) (hlst : l.stackTraces = false) (G : zGt) (L : List Nat) (F : Nat → va_E) (vs vk : Nat) (hvs : vs < 2147483648) (hvk : vk < 31) : zM l yX2_holds wsX2_holds 1 24 0 0 G L F [.int (nI vs), .int (nI vk)] (fun rv L1 F1 => rv = some (.int (nI (bitV vs vk))) ∧ L1 = L ∧ F1 = F) := by
  have hb9 := bitV_le vs vk
  refine z_of (cc := cX2_holds) (nL := 2) (ret := (some .boolean)) (own := RX2) hlst (by decide +kernel) rfl rfl (Nat.le_of_ble_eq_true rfl) ?_
  intro p e s m below meth c A hnm C
  refine z_lvs (lv' := [(0, .int (nI vs)), (1, .int (nI vk))]) rfl ?_
  refine z_iload_n C dX2_holds_0 rfl 0 rfl ?_
  refine z_iload_n C dX2_holds_1 rfl 1 rfl ?_
  refine z_ishr C (nI (vs / 2 ^ vk)) dX2_holds_2 (bit_of (by omega) (by omega)) ?_
  refine z_iconst C (nI 1) dX2_holds_3 (by decide) ?_
  refine z_iand C (nI (bitV vs vk)) dX2_holds_4 (bit_and vk (by omega)) ?_
  refine z_if_eq C 12 (((bitV vs vk : Nat) : Int) = (0 : Int)) (zi_eq (zi_N (n := bitV vs vk) (by omega)) zi_0) dX2_holds_5 (by decide) (fun c1_ => ?_) (fun c1_ => ?_)
  · -- 5 taken
    refine z_iconst C (nI 0) dX2_holds_12 (by decide) ?_
    refine z_iret0 C rfl rfl (by decide) (by decide) dX2_holds_13 ?_
    exact ⟨by rw [show bitV vs vk = 0 by have := bitV_le vs vk; omega], rfl, rfl⟩
  · -- 5 not taken
    refine z_iconst C (nI 1) dX2_holds_8 (by decide) ?_
    refine z_goto C 13 dX2_holds_9 (by decide) ?_
    refine z_iret0 C rfl rfl (by decide) (by decide) dX2_holds_13 ?_
    exact ⟨by rw [show bitV vs vk = 1 by have := bitV_le vs vk; omega], rfl, rfl⟩
