set_option maxRecDepth 100000 in
theorem hin_X1_init_X1 : ∀ w ∈ u_ws RX1 TX1 10, w ∈ wsX1_init := by decide +kernel
set_option maxHeartbeats 4000000 in
set_option maxRecDepth 100000 in
theorem c_X1_init (l : Launch) (hlst : l.stackTraces = false) (G : zGt) (L : List Nat) (F : Nat → va_E) (h0 : Nat) (hL0 : h0 ∈ L) (hF0 : F h0 = .inr (2, [.null, .null, .null, .null, .int (nI 0), .int (nI 0), .int (nI 0), .int (nI 0), .int (nI 0), .int (nI 0)])) : zM l yX1_init wsX1_init 1 24 4 49 G L F [.ref h0] (fun rv L1 F1 => ∃ b4 b5 b6 b7 : Nat, rv = none ∧ L1 = (((L ++ [b4]) ++ [b5]) ++ [b6]) ++ [b7] ∧ (b4 ∉ L ∧ b5 ∉ L ∧ b6 ∉ L ∧ b7 ∉ L) ∧ (b4 ≠ b5 ∧ b4 ≠ b6 ∧ b4 ≠ b7 ∧ b5 ≠ b6 ∧ b5 ≠ b7 ∧ b6 ≠ b7) ∧ F1 h0 = .inr (2, [.ref b4, .ref b5, .ref b6, .ref b7, .int (nI 0), .int (nI 0), .int (nI 0), .int (nI 0), .int (nI 0), .int (nI 0)]) ∧ (F1 b4 = .inl (G.2.1, 12, .inl (fun _ => 0)) ∧ F1 b5 = .inl (G.2.1, 12, .inl (fun _ => 0)) ∧ F1 b6 = .inl (G.2.1, 12, .inl (fun _ => 0)) ∧ F1 b7 = .inl (G.2.1, 13, .inl (fun _ => 0))) ∧ ∀ b, b ∈ L → b ≠ h0 → F1 b = F b) := by
  refine z_of (cc := cX1_init) (nL := 1) (ret := none) (own := RX1) hlst (by decide +kernel) rfl rfl (Nat.le_of_ble_eq_true rfl) ?_
  intro p e s m below meth c A hnm C
  refine z_lvs (lv' := [(0, .ref h0)]) rfl ?_
  refine z_aload_n C dX1_init_0 rfl 0 rfl ?_
  refine z_obj (T9 := []) C (by decide +kernel) (by decide +kernel) (by decide +kernel) (Nat.le_of_ble_eq_true rfl) (Nat.le_of_ble_eq_true rfl) dX1_init_1 ?_
  refine z_aload_n C dX1_init_4 rfl 0 rfl ?_
  refine z_bipush C (nI 12) dX1_init_5 (by decide) ?_
  refine z_newI C (by decide) (by decide +kernel) (Nat.le_of_ble_eq_true rfl) (Nat.le_of_ble_eq_true rfl) dX1_init_7 (fun q1_ F2_ hq3_ h4_ k5_ => ?_)
  have hL6_ : h0 ∈ (L ++ [q1_]) := List.mem_append_left _ hL0
  have nq7_ : h0 ≠ q1_ := fun h9 => hq3_ (h9 ▸ hL0)
  have hL8_ : q1_ ∈ (L ++ [q1_]) := List.mem_append_right _ (List.mem_singleton.mpr rfl)
  have h9_ : F2_ h0 = .inr (2, [.null, .null, .null, .null, .int (nI 0), .int (nI 0), .int (nI 0), .int (nI 0), .int (nI 0), .int (nI 0)]) := (k5_ h0 nq7_).trans hF0
  have kc10_ : ∀ b, b ≠ q1_ → F2_ b = F b := fun b q0 => k5_ b q0
  refine z_putF (ref := "Shedwheel$Search") (v := .ref q1_) (fs' := [.ref q1_, .null, .null, .null, .int (nI 0), .int (nI 0), .int (nI 0), .int (nI 0), .int (nI 0), .int (nI 0)]) C hin_X1_init_X1 tyX1 tyX1_ok nmX1 hL6_ h9_ rfl 0 (by decide) (by decide +kernel) (fun _ h9 => h9) rfl hnm rfl rfl rfl (Nat.le_of_ble_eq_true rfl) rfl dX1_init_9 (fun F11_ h12_ k13_ => ?_)
  have h14_ : F11_ q1_ = .inl (G.2.1, 12, .inl (fun _ => 0)) := (k13_ q1_ (Ne.symm nq7_)).trans h4_
  have kc15_ : ∀ b, b ≠ h0 → b ≠ q1_ → F11_ b = F b := fun b q0 q1 => (k13_ b q0).trans (kc10_ b q1)
  refine z_aload_n C dX1_init_12 rfl 0 rfl ?_
  refine z_bipush C (nI 12) dX1_init_13 (by decide) ?_
  refine z_newI C (by decide) (by decide +kernel) (Nat.le_of_ble_eq_true rfl) (Nat.le_of_ble_eq_true rfl) dX1_init_15 (fun q16_ F17_ hq18_ h19_ k20_ => ?_)
  have hL21_ : h0 ∈ ((L ++ [q1_]) ++ [q16_]) := List.mem_append_left _ hL6_
  have nq22_ : h0 ≠ q16_ := fun h9 => hq18_ (h9 ▸ hL6_)
  have hL23_ : q1_ ∈ ((L ++ [q1_]) ++ [q16_]) := List.mem_append_left _ hL8_
  have nq24_ : q1_ ≠ q16_ := fun h9 => hq18_ (h9 ▸ hL8_)
  have hL25_ : q16_ ∈ ((L ++ [q1_]) ++ [q16_]) := List.mem_append_right _ (List.mem_singleton.mpr rfl)
  have h26_ : F17_ h0 = .inr (2, [.ref q1_, .null, .null, .null, .int (nI 0), .int (nI 0), .int (nI 0), .int (nI 0), .int (nI 0), .int (nI 0)]) := (k20_ h0 nq22_).trans h12_
  have h27_ : F17_ q1_ = .inl (G.2.1, 12, .inl (fun _ => 0)) := (k20_ q1_ nq24_).trans h14_
  have kc28_ : ∀ b, b ≠ h0 → b ≠ q1_ → b ≠ q16_ → F17_ b = F b := fun b q0 q1 q2 => (k20_ b q2).trans (kc15_ b q0 q1)
  refine z_putF (ref := "Shedwheel$Search") (v := .ref q16_) (fs' := [.ref q1_, .ref q16_, .null, .null, .int (nI 0), .int (nI 0), .int (nI 0), .int (nI 0), .int (nI 0), .int (nI 0)]) C hin_X1_init_X1 tyX1 tyX1_ok nmX1 hL21_ h26_ rfl 1 (by decide) (by decide +kernel) (fun _ h9 => h9) rfl hnm rfl rfl rfl (Nat.le_of_ble_eq_true rfl) rfl dX1_init_17 (fun F29_ h30_ k31_ => ?_)
  have h32_ : F29_ q1_ = .inl (G.2.1, 12, .inl (fun _ => 0)) := (k31_ q1_ (Ne.symm nq7_)).trans h27_
  have h33_ : F29_ q16_ = .inl (G.2.1, 12, .inl (fun _ => 0)) := (k31_ q16_ (Ne.symm nq22_)).trans h19_
  have kc34_ : ∀ b, b ≠ h0 → b ≠ q1_ → b ≠ q16_ → F29_ b = F b := fun b q0 q1 q2 => (k31_ b q0).trans (kc28_ b q0 q1 q2)
  refine z_aload_n C dX1_init_20 rfl 0 rfl ?_
  refine z_bipush C (nI 12) dX1_init_21 (by decide) ?_
  refine z_newI C (by decide) (by decide +kernel) (Nat.le_of_ble_eq_true rfl) (Nat.le_of_ble_eq_true rfl) dX1_init_23 (fun q35_ F36_ hq37_ h38_ k39_ => ?_)
  have hL40_ : h0 ∈ (((L ++ [q1_]) ++ [q16_]) ++ [q35_]) := List.mem_append_left _ hL21_
  have nq41_ : h0 ≠ q35_ := fun h9 => hq37_ (h9 ▸ hL21_)
  have hL42_ : q1_ ∈ (((L ++ [q1_]) ++ [q16_]) ++ [q35_]) := List.mem_append_left _ hL23_
  have nq43_ : q1_ ≠ q35_ := fun h9 => hq37_ (h9 ▸ hL23_)
  have hL44_ : q16_ ∈ (((L ++ [q1_]) ++ [q16_]) ++ [q35_]) := List.mem_append_left _ hL25_
  have nq45_ : q16_ ≠ q35_ := fun h9 => hq37_ (h9 ▸ hL25_)
  have hL46_ : q35_ ∈ (((L ++ [q1_]) ++ [q16_]) ++ [q35_]) := List.mem_append_right _ (List.mem_singleton.mpr rfl)
  have h47_ : F36_ h0 = .inr (2, [.ref q1_, .ref q16_, .null, .null, .int (nI 0), .int (nI 0), .int (nI 0), .int (nI 0), .int (nI 0), .int (nI 0)]) := (k39_ h0 nq41_).trans h30_
  have h48_ : F36_ q1_ = .inl (G.2.1, 12, .inl (fun _ => 0)) := (k39_ q1_ nq43_).trans h32_
  have h49_ : F36_ q16_ = .inl (G.2.1, 12, .inl (fun _ => 0)) := (k39_ q16_ nq45_).trans h33_
  have kc50_ : ∀ b, b ≠ h0 → b ≠ q1_ → b ≠ q16_ → b ≠ q35_ → F36_ b = F b := fun b q0 q1 q2 q3 => (k39_ b q3).trans (kc34_ b q0 q1 q2)
  refine z_putF (ref := "Shedwheel$Search") (v := .ref q35_) (fs' := [.ref q1_, .ref q16_, .ref q35_, .null, .int (nI 0), .int (nI 0), .int (nI 0), .int (nI 0), .int (nI 0), .int (nI 0)]) C hin_X1_init_X1 tyX1 tyX1_ok nmX1 hL40_ h47_ rfl 2 (by decide) (by decide +kernel) (fun _ h9 => h9) rfl hnm rfl rfl rfl (Nat.le_of_ble_eq_true rfl) rfl dX1_init_25 (fun F51_ h52_ k53_ => ?_)
  have h54_ : F51_ q1_ = .inl (G.2.1, 12, .inl (fun _ => 0)) := (k53_ q1_ (Ne.symm nq7_)).trans h48_
  have h55_ : F51_ q16_ = .inl (G.2.1, 12, .inl (fun _ => 0)) := (k53_ q16_ (Ne.symm nq22_)).trans h49_
  have h56_ : F51_ q35_ = .inl (G.2.1, 12, .inl (fun _ => 0)) := (k53_ q35_ (Ne.symm nq41_)).trans h38_
  have kc57_ : ∀ b, b ≠ h0 → b ≠ q1_ → b ≠ q16_ → b ≠ q35_ → F51_ b = F b := fun b q0 q1 q2 q3 => (k53_ b q0).trans (kc50_ b q0 q1 q2 q3)
  refine z_aload_n C dX1_init_28 rfl 0 rfl ?_
  refine z_bipush C (nI 13) dX1_init_29 (by decide) ?_
  refine z_newI C (by decide) (by decide +kernel) (Nat.le_of_ble_eq_true rfl) (Nat.le_of_ble_eq_true rfl) dX1_init_31 (fun q58_ F59_ hq60_ h61_ k62_ => ?_)
  have hL63_ : h0 ∈ ((((L ++ [q1_]) ++ [q16_]) ++ [q35_]) ++ [q58_]) := List.mem_append_left _ hL40_
  have nq64_ : h0 ≠ q58_ := fun h9 => hq60_ (h9 ▸ hL40_)
  have hL65_ : q1_ ∈ ((((L ++ [q1_]) ++ [q16_]) ++ [q35_]) ++ [q58_]) := List.mem_append_left _ hL42_
  have nq66_ : q1_ ≠ q58_ := fun h9 => hq60_ (h9 ▸ hL42_)
  have hL67_ : q16_ ∈ ((((L ++ [q1_]) ++ [q16_]) ++ [q35_]) ++ [q58_]) := List.mem_append_left _ hL44_
  have nq68_ : q16_ ≠ q58_ := fun h9 => hq60_ (h9 ▸ hL44_)
  have hL69_ : q35_ ∈ ((((L ++ [q1_]) ++ [q16_]) ++ [q35_]) ++ [q58_]) := List.mem_append_left _ hL46_
  have nq70_ : q35_ ≠ q58_ := fun h9 => hq60_ (h9 ▸ hL46_)
  have hL71_ : q58_ ∈ ((((L ++ [q1_]) ++ [q16_]) ++ [q35_]) ++ [q58_]) := List.mem_append_right _ (List.mem_singleton.mpr rfl)
  have h72_ : F59_ h0 = .inr (2, [.ref q1_, .ref q16_, .ref q35_, .null, .int (nI 0), .int (nI 0), .int (nI 0), .int (nI 0), .int (nI 0), .int (nI 0)]) := (k62_ h0 nq64_).trans h52_
  have h73_ : F59_ q1_ = .inl (G.2.1, 12, .inl (fun _ => 0)) := (k62_ q1_ nq66_).trans h54_
  have h74_ : F59_ q16_ = .inl (G.2.1, 12, .inl (fun _ => 0)) := (k62_ q16_ nq68_).trans h55_
  have h75_ : F59_ q35_ = .inl (G.2.1, 12, .inl (fun _ => 0)) := (k62_ q35_ nq70_).trans h56_
  have kc76_ : ∀ b, b ≠ h0 → b ≠ q1_ → b ≠ q16_ → b ≠ q35_ → b ≠ q58_ → F59_ b = F b := fun b q0 q1 q2 q3 q4 => (k62_ b q4).trans (kc57_ b q0 q1 q2 q3)
  refine z_putF (ref := "Shedwheel$Search") (v := .ref q58_) (fs' := [.ref q1_, .ref q16_, .ref q35_, .ref q58_, .int (nI 0), .int (nI 0), .int (nI 0), .int (nI 0), .int (nI 0), .int (nI 0)]) C hin_X1_init_X1 tyX1 tyX1_ok nmX1 hL63_ h72_ rfl 3 (by decide) (by decide +kernel) (fun _ h9 => h9) rfl hnm rfl rfl rfl (Nat.le_of_ble_eq_true rfl) rfl dX1_init_33 (fun F77_ h78_ k79_ => ?_)
  have h80_ : F77_ q1_ = .inl (G.2.1, 12, .inl (fun _ => 0)) := (k79_ q1_ (Ne.symm nq7_)).trans h73_
  have h81_ : F77_ q16_ = .inl (G.2.1, 12, .inl (fun _ => 0)) := (k79_ q16_ (Ne.symm nq22_)).trans h74_
  have h82_ : F77_ q35_ = .inl (G.2.1, 12, .inl (fun _ => 0)) := (k79_ q35_ (Ne.symm nq41_)).trans h75_
  have h83_ : F77_ q58_ = .inl (G.2.1, 13, .inl (fun _ => 0)) := (k79_ q58_ (Ne.symm nq64_)).trans h61_
  have kc84_ : ∀ b, b ≠ h0 → b ≠ q1_ → b ≠ q16_ → b ≠ q35_ → b ≠ q58_ → F77_ b = F b := fun b q0 q1 q2 q3 q4 => (k79_ b q0).trans (kc76_ b q0 q1 q2 q3 q4)
  refine z_aload_n C dX1_init_36 rfl 0 rfl ?_
  refine z_iconst C (nI 0) dX1_init_37 (by decide) ?_
  refine z_put (ref := "Shedwheel$Search") (v := .int (nI 0)) (fs' := [.ref q1_, .ref q16_, .ref q35_, .ref q58_, .int (nI 0), .int (nI 0), .int (nI 0), .int (nI 0), .int (nI 0), .int (nI 0)]) C hin_X1_init_X1 tyX1 tyX1_ok nmX1 hL63_ h78_ rfl 4 (by decide) (by decide +kernel) (fun _ h9 => h9) rfl rfl rfl (Nat.le_of_ble_eq_true rfl) rfl dX1_init_38 (fun F85_ h86_ k87_ => ?_)
  have h88_ : F85_ q1_ = .inl (G.2.1, 12, .inl (fun _ => 0)) := (k87_ q1_ (Ne.symm nq7_)).trans h80_
  have h89_ : F85_ q16_ = .inl (G.2.1, 12, .inl (fun _ => 0)) := (k87_ q16_ (Ne.symm nq22_)).trans h81_
  have h90_ : F85_ q35_ = .inl (G.2.1, 12, .inl (fun _ => 0)) := (k87_ q35_ (Ne.symm nq41_)).trans h82_
  have h91_ : F85_ q58_ = .inl (G.2.1, 13, .inl (fun _ => 0)) := (k87_ q58_ (Ne.symm nq64_)).trans h83_
  have kc92_ : ∀ b, b ≠ h0 → b ≠ q1_ → b ≠ q16_ → b ≠ q35_ → b ≠ q58_ → F85_ b = F b := fun b q0 q1 q2 q3 q4 => (k87_ b q0).trans (kc84_ b q0 q1 q2 q3 q4)
  refine z_aload_n C dX1_init_41 rfl 0 rfl ?_
  refine z_iconst C (nI 0) dX1_init_42 (by decide) ?_
  refine z_put (ref := "Shedwheel$Search") (v := .int (nI 0)) (fs' := [.ref q1_, .ref q16_, .ref q35_, .ref q58_, .int (nI 0), .int (nI 0), .int (nI 0), .int (nI 0), .int (nI 0), .int (nI 0)]) C hin_X1_init_X1 tyX1 tyX1_ok nmX1 hL63_ h86_ rfl 5 (by decide) (by decide +kernel) (fun _ h9 => h9) rfl rfl rfl (Nat.le_of_ble_eq_true rfl) rfl dX1_init_43 (fun F93_ h94_ k95_ => ?_)
  have h96_ : F93_ q1_ = .inl (G.2.1, 12, .inl (fun _ => 0)) := (k95_ q1_ (Ne.symm nq7_)).trans h88_
  have h97_ : F93_ q16_ = .inl (G.2.1, 12, .inl (fun _ => 0)) := (k95_ q16_ (Ne.symm nq22_)).trans h89_
  have h98_ : F93_ q35_ = .inl (G.2.1, 12, .inl (fun _ => 0)) := (k95_ q35_ (Ne.symm nq41_)).trans h90_
  have h99_ : F93_ q58_ = .inl (G.2.1, 13, .inl (fun _ => 0)) := (k95_ q58_ (Ne.symm nq64_)).trans h91_
  have kc100_ : ∀ b, b ≠ h0 → b ≠ q1_ → b ≠ q16_ → b ≠ q35_ → b ≠ q58_ → F93_ b = F b := fun b q0 q1 q2 q3 q4 => (k95_ b q0).trans (kc92_ b q0 q1 q2 q3 q4)
  refine z_aload_n C dX1_init_46 rfl 0 rfl ?_
  refine z_iconst C (nI 0) dX1_init_47 (by decide) ?_
  refine z_put (ref := "Shedwheel$Search") (v := .int (nI 0)) (fs' := [.ref q1_, .ref q16_, .ref q35_, .ref q58_, .int (nI 0), .int (nI 0), .int (nI 0), .int (nI 0), .int (nI 0), .int (nI 0)]) C hin_X1_init_X1 tyX1 tyX1_ok nmX1 hL63_ h94_ rfl 6 (by decide) (by decide +kernel) (fun _ h9 => h9) rfl rfl rfl (Nat.le_of_ble_eq_true rfl) rfl dX1_init_48 (fun F101_ h102_ k103_ => ?_)
  have h104_ : F101_ q1_ = .inl (G.2.1, 12, .inl (fun _ => 0)) := (k103_ q1_ (Ne.symm nq7_)).trans h96_
  have h105_ : F101_ q16_ = .inl (G.2.1, 12, .inl (fun _ => 0)) := (k103_ q16_ (Ne.symm nq22_)).trans h97_
  have h106_ : F101_ q35_ = .inl (G.2.1, 12, .inl (fun _ => 0)) := (k103_ q35_ (Ne.symm nq41_)).trans h98_
  have h107_ : F101_ q58_ = .inl (G.2.1, 13, .inl (fun _ => 0)) := (k103_ q58_ (Ne.symm nq64_)).trans h99_
  have kc108_ : ∀ b, b ≠ h0 → b ≠ q1_ → b ≠ q16_ → b ≠ q35_ → b ≠ q58_ → F101_ b = F b := fun b q0 q1 q2 q3 q4 => (k103_ b q0).trans (kc100_ b q0 q1 q2 q3 q4)
  refine z_aload_n C dX1_init_51 rfl 0 rfl ?_
  refine z_iconst C (nI 0) dX1_init_52 (by decide) ?_
  refine z_put (ref := "Shedwheel$Search") (v := .int (nI 0)) (fs' := [.ref q1_, .ref q16_, .ref q35_, .ref q58_, .int (nI 0), .int (nI 0), .int (nI 0), .int (nI 0), .int (nI 0), .int (nI 0)]) C hin_X1_init_X1 tyX1 tyX1_ok nmX1 hL63_ h102_ rfl 7 (by decide) (by decide +kernel) (fun _ h9 => h9) rfl rfl rfl (Nat.le_of_ble_eq_true rfl) rfl dX1_init_53 (fun F109_ h110_ k111_ => ?_)
  have h112_ : F109_ q1_ = .inl (G.2.1, 12, .inl (fun _ => 0)) := (k111_ q1_ (Ne.symm nq7_)).trans h104_
  have h113_ : F109_ q16_ = .inl (G.2.1, 12, .inl (fun _ => 0)) := (k111_ q16_ (Ne.symm nq22_)).trans h105_
  have h114_ : F109_ q35_ = .inl (G.2.1, 12, .inl (fun _ => 0)) := (k111_ q35_ (Ne.symm nq41_)).trans h106_
  have h115_ : F109_ q58_ = .inl (G.2.1, 13, .inl (fun _ => 0)) := (k111_ q58_ (Ne.symm nq64_)).trans h107_
  have kc116_ : ∀ b, b ≠ h0 → b ≠ q1_ → b ≠ q16_ → b ≠ q35_ → b ≠ q58_ → F109_ b = F b := fun b q0 q1 q2 q3 q4 => (k111_ b q0).trans (kc108_ b q0 q1 q2 q3 q4)
  refine z_aload_n C dX1_init_56 rfl 0 rfl ?_
  refine z_iconst C (nI 0) dX1_init_57 (by decide) ?_
  refine z_put (ref := "Shedwheel$Search") (v := .int (nI 0)) (fs' := [.ref q1_, .ref q16_, .ref q35_, .ref q58_, .int (nI 0), .int (nI 0), .int (nI 0), .int (nI 0), .int (nI 0), .int (nI 0)]) C hin_X1_init_X1 tyX1 tyX1_ok nmX1 hL63_ h110_ rfl 8 (by decide) (by decide +kernel) (fun _ h9 => h9) rfl rfl rfl (Nat.le_of_ble_eq_true rfl) rfl dX1_init_58 (fun F117_ h118_ k119_ => ?_)
  have h120_ : F117_ q1_ = .inl (G.2.1, 12, .inl (fun _ => 0)) := (k119_ q1_ (Ne.symm nq7_)).trans h112_
  have h121_ : F117_ q16_ = .inl (G.2.1, 12, .inl (fun _ => 0)) := (k119_ q16_ (Ne.symm nq22_)).trans h113_
  have h122_ : F117_ q35_ = .inl (G.2.1, 12, .inl (fun _ => 0)) := (k119_ q35_ (Ne.symm nq41_)).trans h114_
  have h123_ : F117_ q58_ = .inl (G.2.1, 13, .inl (fun _ => 0)) := (k119_ q58_ (Ne.symm nq64_)).trans h115_
  have kc124_ : ∀ b, b ≠ h0 → b ≠ q1_ → b ≠ q16_ → b ≠ q35_ → b ≠ q58_ → F117_ b = F b := fun b q0 q1 q2 q3 q4 => (k119_ b q0).trans (kc116_ b q0 q1 q2 q3 q4)
  refine z_aload_n C dX1_init_61 rfl 0 rfl ?_
  refine z_iconst C (nI 0) dX1_init_62 (by decide) ?_
  refine z_put (ref := "Shedwheel$Search") (v := .int (nI 0)) (fs' := [.ref q1_, .ref q16_, .ref q35_, .ref q58_, .int (nI 0), .int (nI 0), .int (nI 0), .int (nI 0), .int (nI 0), .int (nI 0)]) C hin_X1_init_X1 tyX1 tyX1_ok nmX1 hL63_ h118_ rfl 9 (by decide) (by decide +kernel) (fun _ h9 => h9) rfl rfl rfl (Nat.le_of_ble_eq_true rfl) rfl dX1_init_63 (fun F125_ h126_ k127_ => ?_)
  have h128_ : F125_ q1_ = .inl (G.2.1, 12, .inl (fun _ => 0)) := (k127_ q1_ (Ne.symm nq7_)).trans h120_
  have h129_ : F125_ q16_ = .inl (G.2.1, 12, .inl (fun _ => 0)) := (k127_ q16_ (Ne.symm nq22_)).trans h121_
  have h130_ : F125_ q35_ = .inl (G.2.1, 12, .inl (fun _ => 0)) := (k127_ q35_ (Ne.symm nq41_)).trans h122_
  have h131_ : F125_ q58_ = .inl (G.2.1, 13, .inl (fun _ => 0)) := (k127_ q58_ (Ne.symm nq64_)).trans h123_
  have kc132_ : ∀ b, b ≠ h0 → b ≠ q1_ → b ≠ q16_ → b ≠ q35_ → b ≠ q58_ → F125_ b = F b := fun b q0 q1 q2 q3 q4 => (k127_ b q0).trans (kc124_ b q0 q1 q2 q3 q4)
  refine z_vret0 C rfl (by decide) (by decide) dX1_init_66 ?_
  exact ⟨q1_, q16_, q35_, q58_, rfl, rfl, ⟨hq3_, fun h => hq18_ (List.mem_append_left _ h), fun h => hq37_ (List.mem_append_left _ (List.mem_append_left _ h)), fun h => hq60_ (List.mem_append_left _ (List.mem_append_left _ (List.mem_append_left _ h)))⟩, ⟨nq24_, nq43_, nq66_, nq45_, nq68_, nq70_⟩, h126_, ⟨h128_, h129_, h130_, h131_⟩, fun b hb h0' => kc132_ b h0' (fun e => hq3_ (e ▸ hb)) (fun e => hq18_ (List.mem_append_left _ (e ▸ hb))) (fun e => hq37_ (List.mem_append_left _ (List.mem_append_left _ (e ▸ hb)))) (fun e => hq60_ (List.mem_append_left _ (List.mem_append_left _ (List.mem_append_left _ (e ▸ hb)))))⟩

set_option maxHeartbeats 4000000 in
set_option maxRecDepth 100000 in
theorem c_Jxa1e45_init_da8c8 (l : Launch) (hlst : l.stackTraces = false) (G : zGt) (L : List Nat) (F : Nat → va_E) (h0 : Nat) : zM l yJxa1e45_init_da8c8 wsJxa1e45_init_da8c8 1 24 0 0 G L F [.ref h0] (fun rv L1 F1 => rv = none ∧ L1 = L ∧ F1 = F) := by
  refine z_of (cc := cJxa1e45_init_da8c8) (nL := 1) (ret := none) (own := RJxa1e45) hlst (by decide +kernel) rfl rfl (Nat.le_of_ble_eq_true rfl) ?_
  intro p e s m below meth c A hnm C
  refine z_lvs (lv' := [(0, .ref h0)]) rfl ?_
  refine z_aload_n C dJxa1e45_init_da8c8_0 rfl 0 rfl ?_
  refine z_obj (T9 := []) C (by decide +kernel) (by decide +kernel) (by decide +kernel) (Nat.le_of_ble_eq_true rfl) (Nat.le_of_ble_eq_true rfl) dJxa1e45_init_da8c8_1 ?_
  refine z_vret0 C rfl (by decide) (by decide) dJxa1e45_init_da8c8_4 ?_
  exact ⟨rfl, rfl, rfl⟩

set_option maxRecDepth 100000 in
theorem hin_Jxc12de_init_da8c8_Jx4a65c : ∀ w ∈ u_ws RJx4a65c TJx4a65c 3, w ∈ wsJxc12de_init_da8c8 := by decide +kernel
set_option maxHeartbeats 4000000 in
set_option maxRecDepth 100000 in
theorem c_Jxc12de_init_da8c8 (l : Launch) (hlst : l.stackTraces = false) (G : zGt) (L : List Nat) (F : Nat → va_E) (h0 : Nat) (hL0 : h0 ∈ L) (hF0 : F h0 = .inr (0, [.int (nI 0), .null, .int (nI 0)])) : zM l yJxc12de_init_da8c8 wsJxc12de_init_da8c8 2 44 0 0 G L F [.ref h0] (fun rv L1 F1 => rv = none ∧ L1 = L ∧ F1 h0 = .inr (0, [.int (nI 0), .null, .int (nI 0)]) ∧ ∀ b, b ≠ h0 → F1 b = F b) := by
  refine z_of (cc := cJxc12de_init_da8c8) (nL := 1) (ret := none) (own := RJxc12de) hlst (by decide +kernel) rfl rfl (Nat.le_of_ble_eq_true rfl) ?_
  intro p e s m below meth c A hnm C
  refine z_lvs (lv' := [(0, .ref h0)]) rfl ?_
  refine z_aload_n C dJxc12de_init_da8c8_0 rfl 0 rfl ?_
  refine z_callI (As := []) (st := []) (mc := 0) (ms := 0) C (c_Jxa1e45_init_da8c8 l hlst G L F h0) (cwI 0 C.1.2.2.2.2 gJxc12de_init_da8c8_Jxa1e45_init_da8c8 rfl rfl rfl (C.1.2.2.2.2 _ (show Cond.initialized RJxa1e45 ∈ _ from (by decide +kernel))) (C.1.2.2.2.2 _ (show Cond.methodLink RJxc12de 1 yJxa1e45_init_da8c8 ∈ _ from (by decide +kernel))) (C.1.2.2.2.2 _ (show Cond.instanceMethod yJxa1e45_init_da8c8 ∈ _ from (by decide +kernel))) rfl (by decide +kernel) ⟨Nat.le_of_ble_eq_true rfl, Nat.le_of_ble_eq_true rfl⟩) rfl (Nat.le_of_ble_eq_true rfl) ⟨Nat.le_of_ble_eq_true rfl, Nat.le_of_ble_eq_true rfl⟩ dJxc12de_init_da8c8_1 (z_p ?_)
  refine z_stk (st' := []) rfl ?_
  refine z_aload_n C dJxc12de_init_da8c8_4 rfl 0 rfl ?_
  refine z_iconst C (nI 0) dJxc12de_init_da8c8_5 (by decide) ?_
  refine z_put (ref := "java/util/AbstractList") (v := .int (nI 0)) (fs' := [.int (nI 0), .null, .int (nI 0)]) C hin_Jxc12de_init_da8c8_Jx4a65c tyJx4a65c tyJx4a65c_ok nmJx4a65c hL0 hF0 rfl 0 (by decide) (by decide +kernel) (fun _ h9 => h9) rfl rfl rfl (Nat.le_of_ble_eq_true rfl) rfl dJxc12de_init_da8c8_6 (fun F1_ h2_ k3_ => ?_)
  have kc4_ : ∀ b, b ≠ h0 → F1_ b = F b := fun b q0 => k3_ b q0
  refine z_vret0 C rfl (by decide) (by decide) dJxc12de_init_da8c8_9 ?_
  exact ⟨rfl, rfl, h2_, kc4_⟩

set_option maxRecDepth 100000 in
theorem hin_Jx4a65c_init_da8c8_Jx4a65c : ∀ w ∈ u_ws RJx4a65c TJx4a65c 3, w ∈ wsJx4a65c_init_da8c8 := by decide +kernel
set_option maxHeartbeats 4000000 in
set_option maxRecDepth 100000 in
theorem c_Jx4a65c_init_da8c8 (l : Launch) (hlst : l.stackTraces = false) (G : zGt) (L : List Nat) (F : Nat → va_E) (h0 : Nat) (hL0 : h0 ∈ L) (hF0 : F h0 = .inr (0, [.int (nI 0), .null, .int (nI 0)])) : zM l yJx4a65c_init_da8c8 wsJx4a65c_init_da8c8 3 64 0 0 G L F [.ref h0] (fun rv L1 F1 => rv = none ∧ L1 = L ∧ F1 h0 = .inr (0, [.int (nI 0), .ref G.2.2.2.2.1, .int (nI 0)]) ∧ ∀ b, b ≠ h0 → F1 b = F b) := by
  refine z_of (cc := cJx4a65c_init_da8c8) (nL := 1) (ret := none) (own := RJx4a65c) hlst (by decide +kernel) rfl rfl (Nat.le_of_ble_eq_true rfl) ?_
  intro p e s m below meth c A hnm C
  refine z_lvs (lv' := [(0, .ref h0)]) rfl ?_
  refine z_aload_n C dJx4a65c_init_da8c8_0 rfl 0 rfl ?_
  refine z_callI (As := []) (st := []) (mc := 0) (ms := 0) C (c_Jxc12de_init_da8c8 l hlst G L F h0 hL0 hF0) (cwI 0 C.1.2.2.2.2 gJx4a65c_init_da8c8_Jxc12de_init_da8c8 rfl rfl rfl (C.1.2.2.2.2 _ (show Cond.initialized RJxc12de ∈ _ from (by decide +kernel))) (C.1.2.2.2.2 _ (show Cond.methodLink RJx4a65c 1 yJxc12de_init_da8c8 ∈ _ from (by decide +kernel))) (C.1.2.2.2.2 _ (show Cond.instanceMethod yJxc12de_init_da8c8 ∈ _ from (by decide +kernel))) rfl (by decide +kernel) ⟨Nat.le_of_ble_eq_true rfl, Nat.le_of_ble_eq_true rfl⟩) rfl (Nat.le_of_ble_eq_true rfl) ⟨Nat.le_of_ble_eq_true rfl, Nat.le_of_ble_eq_true rfl⟩ dJx4a65c_init_da8c8_1 (fun rv1_ L2_ F3_ hp4_ => ?_)
  obtain ⟨e5_, e6_, h7_, k8_⟩ := hp4_
  rw [e5_, e6_]
  have kc9_ : ∀ b, b ≠ h0 → F3_ b = F b := fun b q0 => k8_ b q0
  refine z_stk (st' := []) rfl ?_
  refine z_aload_n C dJx4a65c_init_da8c8_4 rfl 0 rfl ?_
  refine z_gets C (by decide +kernel) dJx4a65c_init_da8c8_5 ?_
  refine z_put (ref := "java/util/ArrayList") (v := .ref G.2.2.2.2.1) (fs' := [.int ((nI 0)), .ref G.2.2.2.2.1, .int (nI 0)]) C hin_Jx4a65c_init_da8c8_Jx4a65c tyJx4a65c tyJx4a65c_ok nmJx4a65c hL0 h7_ rfl 1 (by decide) (by decide +kernel) (fun _ h9 => h9) rfl rfl rfl (Nat.le_of_ble_eq_true rfl) rfl dJx4a65c_init_da8c8_8 (fun F10_ h11_ k12_ => ?_)
  have kc13_ : ∀ b, b ≠ h0 → F10_ b = F b := fun b q0 => (k12_ b q0).trans (kc9_ b q0)
  refine z_vret0 C rfl (by decide) (by decide) dJx4a65c_init_da8c8_11 ?_
  exact ⟨rfl, rfl, h11_, kc13_⟩

set_option maxRecDepth 100000 in
theorem hin_Jx4a65c_size_8abf5_Jx4a65c : ∀ w ∈ u_ws RJx4a65c TJx4a65c 3, w ∈ wsJx4a65c_size_8abf5 := by decide +kernel
set_option maxHeartbeats 4000000 in
set_option maxRecDepth 100000 in
theorem c_Jx4a65c_size_8abf5 (l : Launch) (hlst : l.stackTraces = false) (G : zGt) (L : List Nat) (F : Nat → va_E) (h0 : Nat) (mo : Int32) (ea n : Nat) (hL0 : h0 ∈ L) (hF0 : F h0 = .inr (0, [.int mo, .ref ea, .int (nI n)])) : zM l yJx4a65c_size_8abf5 wsJx4a65c_size_8abf5 1 24 0 0 G L F [.ref h0] (fun rv L1 F1 => rv = some (.int (nI n)) ∧ L1 = L ∧ F1 = F) := by
  refine z_of (cc := cJx4a65c_size_8abf5) (nL := 1) (ret := (some .int)) (own := RJx4a65c) hlst (by decide +kernel) rfl rfl (Nat.le_of_ble_eq_true rfl) ?_
  intro p e s m below meth c A hnm C
  refine z_lvs (lv' := [(0, .ref h0)]) rfl ?_
  refine z_aload_n C dJx4a65c_size_8abf5_0 rfl 0 rfl ?_
  refine z_get (ref := "java/util/ArrayList") (v := .int (nI n)) C hin_Jx4a65c_size_8abf5_Jx4a65c hL0 hF0 rfl 2 (by decide) (by decide +kernel) (fun _ h9 => h9) rfl dJx4a65c_size_8abf5_1 ?_
  refine z_iret0 C rfl rfl (by decide) (by decide) dJx4a65c_size_8abf5_4 ?_
  exact ⟨rfl, rfl, rfl⟩

set_option maxHeartbeats 4000000 in
set_option maxRecDepth 100000 in
theorem c_J3_checkIndex_8e157 (l : Launch) (hlst : l.stackTraces = false) (G : zGt) (L : List Nat) (F : Nat → va_E) (ix n : Nat) (hi : ix < n) (hn : n < 1000) : zM l yJ3_checkIndex_8e157 wsJ3_checkIndex_8e157 7 90 0 0 G L F [.int (nI ix), .int (nI n), .null] (fun rv L1 F1 => rv = some (.int (nI ix)) ∧ L1 = L ∧ F1 = F) := by
  refine z_of (cc := cJ3_checkIndex_8e157) (nL := 3) (ret := (some .int)) (own := RJ3) hlst (by decide +kernel) rfl rfl (Nat.le_of_ble_eq_true rfl) ?_
  intro p e s m below meth c A hnm C
  refine z_lvs (lv' := [(0, .int (nI ix)), (1, .int (nI n)), (2, .null)]) rfl ?_
  refine z_iload_n C dJ3_checkIndex_8e157_0 rfl 0 rfl ?_
  refine z_if_lt C 9 (((ix : Nat) : Int) < (0 : Int)) (zi_lt (zi_N (n := ix) (by omega)) zi_0) dJ3_checkIndex_8e157_1 (by decide) (fun c1_ => absurd c1_ (by omega)) (fun c1_ => ?_)
  refine z_iload_n C dJ3_checkIndex_8e157_4 rfl 0 rfl ?_
  refine z_iload_n C dJ3_checkIndex_8e157_5 rfl 1 rfl ?_
  refine z_icmp_lt C 16 (((ix : Nat) : Int) < ((n : Nat) : Int)) (zi_lt (zi_N (n := ix) (by omega)) (zi_N (n := n) (by omega))) dJ3_checkIndex_8e157_6 (by decide) (fun c2_ => ?_) (fun c2_ => absurd c2_ (by omega))
  refine z_iload_n C dJ3_checkIndex_8e157_16 rfl 0 rfl ?_
  refine z_iret0 C rfl rfl (by decide) (by decide) dJ3_checkIndex_8e157_17 ?_
  exact ⟨rfl, rfl, rfl⟩

set_option maxHeartbeats 4000000 in
set_option maxRecDepth 100000 in
theorem c_J15_checkIndex_7cf53 (l : Launch) (hlst : l.stackTraces = false) (G : zGt) (L : List Nat) (F : Nat → va_E) (ix n : Nat) (hi : ix < n) (hn : n < 1000) : zM l yJ15_checkIndex_7cf53 wsJ15_checkIndex_7cf53 8 112 0 0 G L F [.int (nI ix), .int (nI n)] (fun rv L1 F1 => rv = some (.int (nI ix)) ∧ L1 = L ∧ F1 = F) := by
  refine z_of (cc := cJ15_checkIndex_7cf53) (nL := 2) (ret := (some .int)) (own := RJ15) hlst (by decide +kernel) rfl rfl (Nat.le_of_ble_eq_true rfl) ?_
  intro p e s m below meth c A hnm C
  refine z_lvs (lv' := [(0, .int (nI ix)), (1, .int (nI n))]) rfl ?_
  refine z_iload_n C dJ15_checkIndex_7cf53_0 rfl 0 rfl ?_
  refine z_iload_n C dJ15_checkIndex_7cf53_1 rfl 1 rfl ?_
  refine z_null C dJ15_checkIndex_7cf53_2 ?_
  refine z_callS (As := [.int (nI ix), .int (nI n), .null]) (st := []) (mc := 0) (ms := 0) C (c_J3_checkIndex_8e157 l hlst G L F ix n (by omega) (by omega)) (va_cwS 3 C.1.2.2.2.2 gJ15_checkIndex_7cf53_J3_checkIndex_8e157 rfl rfl rfl (by decide +kernel) ⟨Nat.le_of_ble_eq_true rfl, Nat.le_of_ble_eq_true rfl⟩) rfl (Nat.le_of_ble_eq_true rfl) ⟨Nat.le_of_ble_eq_true rfl, Nat.le_of_ble_eq_true rfl⟩ dJ15_checkIndex_7cf53_3 (z_p ?_)
  refine z_stk (st' := [.int (nI ix)]) rfl ?_
  refine z_iret0 C rfl rfl (by decide) (by decide) dJ15_checkIndex_7cf53_6 ?_
  exact ⟨rfl, rfl, rfl⟩

set_option maxRecDepth 100000 in
theorem hin_Jx4a65c_elementData_915e3_Jx4a65c : ∀ w ∈ u_ws RJx4a65c TJx4a65c 3, w ∈ wsJx4a65c_elementData_915e3 := by decide +kernel
set_option maxHeartbeats 4000000 in
set_option maxRecDepth 100000 in
theorem c_Jx4a65c_elementData_915e3 (l : Launch) (hlst : l.stackTraces = false) (G : zGt) (L : List Nat) (F : Nat → va_E) (h0 : Nat) (mo : Int32) (ea n : Nat) (hL0 : h0 ∈ L) (hF0 : F h0 = .inr (0, [.int mo, .ref ea, .int (nI n)])) (nn ix vv : Nat) (fe : Nat → Option Nat) (hLe : ea ∈ L) (hFe : F ea = .inl (G.2.2.1, nn, .inr (.inr (.inr (.inr fe))))) (hi : ix < nn) (hnn : nn < 1000) (hv : fe ix = some vv) : zM l yJx4a65c_elementData_915e3 wsJx4a65c_elementData_915e3 1 24 0 0 G L F [.ref h0, .int (nI ix)] (fun rv L1 F1 => rv = some (.ref vv) ∧ L1 = L ∧ F1 = F) := by
  refine z_of (cc := cJx4a65c_elementData_915e3) (nL := 2) (ret := (some (.object "java/lang/Object"))) (own := RJx4a65c) hlst (by decide +kernel) rfl rfl (Nat.le_of_ble_eq_true rfl) ?_
  intro p e s m below meth c A hnm C
  refine z_lvs (lv' := [(0, .ref h0), (1, .int (nI ix))]) rfl ?_
  refine z_aload_n C dJx4a65c_elementData_915e3_0 rfl 0 rfl ?_
  refine z_get (ref := "java/util/ArrayList") (v := .ref ea) C hin_Jx4a65c_elementData_915e3_Jx4a65c hL0 hF0 rfl 1 (by decide) (by decide +kernel) (fun _ h9 => h9) rfl dJx4a65c_elementData_915e3_1 ?_
  refine z_iload_n C dJx4a65c_elementData_915e3_4 rfl 1 rfl ?_
  refine z_aldq C hLe hFe hi (by omega) dJx4a65c_elementData_915e3_5 vv (hv) ?_
  refine z_aret0 C rfl (by first | exact Or.inl ⟨_, rfl⟩ | exact Or.inr ⟨_, rfl⟩) (by decide) (by decide) dJx4a65c_elementData_915e3_6 ?_
  exact ⟨rfl, rfl, rfl⟩

set_option maxRecDepth 100000 in
theorem hin_Jx4a65c_get_915e3_Jx4a65c : ∀ w ∈ u_ws RJx4a65c TJx4a65c 3, w ∈ wsJx4a65c_get_915e3 := by decide +kernel
set_option maxHeartbeats 4000000 in
set_option maxRecDepth 100000 in
theorem c_Jx4a65c_get_915e3 (l : Launch) (hlst : l.stackTraces = false) (G : zGt) (L : List Nat) (F : Nat → va_E) (h0 : Nat) (mo : Int32) (ea n : Nat) (hL0 : h0 ∈ L) (hF0 : F h0 = .inr (0, [.int mo, .ref ea, .int (nI n)])) (nn ix vv : Nat) (fe : Nat → Option Nat) (hLe : ea ∈ L) (hFe : F ea = .inl (G.2.2.1, nn, .inr (.inr (.inr (.inr fe))))) (hi : ix < nn) (hnn : nn < 1000) (hv : fe ix = some vv) (hin : ix < n) (hn : n < 1000) : zM l yJx4a65c_get_915e3 wsJx4a65c_get_915e3 9 133 0 0 G L F [.ref h0, .int (nI ix)] (fun rv L1 F1 => rv = some (.ref vv) ∧ L1 = L ∧ F1 = F) := by
  refine z_of (cc := cJx4a65c_get_915e3) (nL := 2) (ret := (some (.object "java/lang/Object"))) (own := RJx4a65c) hlst (by decide +kernel) rfl rfl (Nat.le_of_ble_eq_true rfl) ?_
  intro p e s m below meth c A hnm C
  refine z_lvs (lv' := [(0, .ref h0), (1, .int (nI ix))]) rfl ?_
  refine z_iload_n C dJx4a65c_get_915e3_0 rfl 1 rfl ?_
  refine z_aload_n C dJx4a65c_get_915e3_1 rfl 0 rfl ?_
  refine z_get (ref := "java/util/ArrayList") (v := .int (nI n)) C hin_Jx4a65c_get_915e3_Jx4a65c hL0 hF0 rfl 2 (by decide) (by decide +kernel) (fun _ h9 => h9) rfl dJx4a65c_get_915e3_2 ?_
  refine z_callS (As := [.int (nI ix), .int (nI n)]) (st := []) (mc := 0) (ms := 0) C (c_J15_checkIndex_7cf53 l hlst G L F ix n (by omega) (by omega)) (va_cwS 2 C.1.2.2.2.2 gJx4a65c_get_915e3_J15_checkIndex_7cf53 rfl rfl rfl (by decide +kernel) ⟨Nat.le_of_ble_eq_true rfl, Nat.le_of_ble_eq_true rfl⟩) rfl (Nat.le_of_ble_eq_true rfl) ⟨Nat.le_of_ble_eq_true rfl, Nat.le_of_ble_eq_true rfl⟩ dJx4a65c_get_915e3_5 (z_p ?_)
  refine z_stk (st' := [.int (nI ix)]) rfl ?_
  refine z_pop C dJx4a65c_get_915e3_8 rfl ?_
  refine z_aload_n C dJx4a65c_get_915e3_9 rfl 0 rfl ?_
  refine z_iload_n C dJx4a65c_get_915e3_10 rfl 1 rfl ?_
  refine z_callV (As := [.int (nI ix)]) (st := []) (mc := 0) (ms := 0) C hL0 hF0 rfl (c_Jx4a65c_elementData_915e3 l hlst G L F h0 mo ea n hL0 hF0 nn ix vv fe hLe hFe (by omega) (by omega) hv) (cwV 1 C.1.2.2.2.2 gJx4a65c_get_915e3_Jx4a65c_elementData_915e3 rfl rfl rfl (by decide +kernel) ⟨Nat.le_of_ble_eq_true rfl, Nat.le_of_ble_eq_true rfl⟩) rfl (Nat.le_of_ble_eq_true rfl) ⟨Nat.le_of_ble_eq_true rfl, Nat.le_of_ble_eq_true rfl⟩ dJx4a65c_get_915e3_11 (z_p ?_)
  refine z_stk (st' := [.ref vv]) rfl ?_
  refine z_aret0 C rfl (by first | exact Or.inl ⟨_, rfl⟩ | exact Or.inr ⟨_, rfl⟩) (by decide) (by decide) dJx4a65c_get_915e3_14 ?_
  exact ⟨rfl, rfl, rfl⟩

set_option maxHeartbeats 4000000 in
set_option maxRecDepth 100000 in
theorem c_J8_newLength_cabcc (l : Launch) (hlst : l.stackTraces = false) (G : zGt) (L : List Nat) (F : Nat → va_E)  : zM l yJ8_newLength_cabcc wsJ8_newLength_cabcc 1 24 0 0 G L F [.int (nI 10), .int (nI 1), .int (nI 5)] (fun rv L1 F1 => rv = some (.int (nI 15)) ∧ L1 = L ∧ F1 = F) := by
  refine z_of (cc := cJ8_newLength_cabcc) (nL := 4) (ret := (some .int)) (own := RJ8) hlst (by decide +kernel) rfl rfl (Nat.le_of_ble_eq_true rfl) ?_
  intro p e s m below meth c A hnm C
  refine z_lvs (lv' := [(0, .int (nI 10)), (1, .int (nI 1)), (2, .int (nI 5))]) rfl ?_
  refine z_iload_n C dJ8_newLength_cabcc_0 rfl 0 rfl ?_
  refine z_iload_n C dJ8_newLength_cabcc_1 rfl 1 rfl ?_
  refine z_iload_n C dJ8_newLength_cabcc_2 rfl 2 rfl ?_
  refine z_max C (nI 5) (by decide +kernel) (by decide +kernel) (by decide +kernel) (by decide +kernel) (Nat.le_of_ble_eq_true rfl) (Nat.le_of_ble_eq_true rfl) (Nat.le_of_ble_eq_true rfl) (Nat.le_of_ble_eq_true rfl) dJ8_newLength_cabcc_3 (by decide) ?_
  refine z_iadd C (nI (10 + 5)) dJ8_newLength_cabcc_6 (nI_add 10 5) ?_
  refine z_istore_n (lv' := [(3, .int (nI (10 + 5))), (0, .int (nI 10)), (1, .int (nI 1)), (2, .int (nI 5))]) C dJ8_newLength_cabcc_7 rfl (by decide) rfl ?_
  refine z_iconst C (nI 0) dJ8_newLength_cabcc_8 (by decide) ?_
  refine z_iload_n C dJ8_newLength_cabcc_9 rfl 0 rfl ?_
  refine z_icmp_ge C 21 (((10 + 5 : Nat) : Int) ≤ ((0 : Nat) : Int)) (zi_le (zi_N (n := 10 + 5) (by omega)) (zi_N (n := 0) (by omega))) dJ8_newLength_cabcc_10 (by decide) (fun c1_ => absurd c1_ (by omega)) (fun c1_ => ?_)
  refine z_iload_n C dJ8_newLength_cabcc_13 rfl 0 rfl ?_
  refine z_ldcI C (nI 2147483639) (by decide +kernel) dJ8_newLength_cabcc_14 ?_
  refine z_icmp_gt C 21 (((2147483639 : Nat) : Int) < ((10 + 5 : Nat) : Int)) (zi_lt (zi_N (n := 2147483639) (by omega)) (zi_N (n := 10 + 5) (by omega))) dJ8_newLength_cabcc_16 (by decide) (fun c2_ => absurd c2_ (by omega)) (fun c2_ => ?_)
  refine z_iload_n C dJ8_newLength_cabcc_19 rfl 0 rfl ?_
  refine z_iret0 C rfl rfl (by decide) (by decide) dJ8_newLength_cabcc_20 ?_
  exact ⟨rfl, rfl, rfl⟩

set_option maxHeartbeats 4000000 in
set_option maxRecDepth 100000 in
theorem c_J7_copyOf_6403c (l : Launch) (hlst : l.stackTraces = false) (G : zGt) (L : List Nat) (F : Nat → va_E) (ea : Nat) (fe : Nat → Option Nat) (hLe : ea ∈ L) (hFe : F ea = .inl (G.2.2.1, 10, .inr (.inr (.inr (.inr fe))))) (hel : ∀ i, i < 10 → ∀ y, fe i = some y → y ∈ L ∧ ∃ fs, F y = .inr (1, fs)) : zM l yJ7_copyOf_6403c wsJ7_copyOf_6403c 1 24 1 15 G L F [.ref ea, .int (nI 15), .ref G.2.2.2.2.2] (fun rv L1 F1 => ∃ q : Nat, rv = some (.ref q) ∧ L1 = L ++ [q] ∧ q ∉ L ∧ F1 q = .inl (G.2.2.1, 15, .inr (.inr (.inr (.inr (va_cpy fe (fun _ => none) 0 0 10))))) ∧ ∀ b, b ≠ q → F1 b = F b) := by
  refine z_of (cc := cJ7_copyOf_6403c) (nL := 4) (ret := (some (.array (.object "java/lang/Object")))) (own := RJ7) hlst (by decide +kernel) rfl rfl (Nat.le_of_ble_eq_true rfl) ?_
  intro p e s m below meth c A hnm C
  refine z_lvs (lv' := [(0, .ref ea), (1, .int (nI 15)), (2, .ref G.2.2.2.2.2)]) rfl ?_
  refine z_aload_n C dJ7_copyOf_6403c_0 rfl 2 rfl ?_
  refine z_ldcM C (by decide +kernel) dJ7_copyOf_6403c_1 ?_
  refine z_acmp_neF C 13 rfl dJ7_copyOf_6403c_3 (by decide) ?_
  refine z_iload_n C dJ7_copyOf_6403c_6 rfl 1 rfl ?_
  refine z_newq C (by decide) (by decide +kernel) (Nat.le_of_ble_eq_true rfl) (Nat.le_of_ble_eq_true rfl) dJ7_copyOf_6403c_7 (fun q1_ F2_ hq3_ h4_ k5_ => ?_)
  have hL6_ : ea ∈ (L ++ [q1_]) := List.mem_append_left _ hLe
  have nq7_ : ea ≠ q1_ := fun h9 => hq3_ (h9 ▸ hLe)
  have hL8_ : q1_ ∈ (L ++ [q1_]) := List.mem_append_right _ (List.mem_singleton.mpr rfl)
  have h9_ : F2_ ea = .inl (G.2.2.1, 10, .inr (.inr (.inr (.inr fe)))) := (k5_ ea nq7_).trans hFe
  have kc10_ : ∀ b, b ≠ q1_ → F2_ b = F b := fun b q0 => k5_ b q0
  refine z_goto C 24 dJ7_copyOf_6403c_10 (by decide) ?_
  refine z_astore_n (lv' := [(3, .ref q1_), (0, .ref ea), (1, .int (nI 15)), (2, .ref G.2.2.2.2.2)]) C dJ7_copyOf_6403c_24 rfl (by decide) rfl ?_
  refine z_aload_n C dJ7_copyOf_6403c_25 rfl 1 rfl ?_
  refine z_iconst C (nI 0) dJ7_copyOf_6403c_26 (by decide) ?_
  refine z_aload_n C dJ7_copyOf_6403c_27 rfl 0 rfl ?_
  refine z_iconst C (nI 0) dJ7_copyOf_6403c_28 (by decide) ?_
  refine z_aload_n C dJ7_copyOf_6403c_29 rfl 1 rfl ?_
  refine z_alenq C hL6_ h9_ dJ7_copyOf_6403c_30 ?_
  refine z_iload_n C dJ7_copyOf_6403c_31 rfl 2 rfl ?_
  refine z_min C (nI 10) (by decide +kernel) (by decide +kernel) (by decide +kernel) (by decide +kernel) (Nat.le_of_ble_eq_true rfl) (Nat.le_of_ble_eq_true rfl) (Nat.le_of_ble_eq_true rfl) (Nat.le_of_ble_eq_true rfl) dJ7_copyOf_6403c_32 (by decide) ?_
  refine z_copyq C hL6_ h9_ hL8_ h4_ (by omega) (by omega) (by omega) (fun i hi y hy => (by obtain ⟨g1, fs, g2⟩ := hel i hi y hy; exact ⟨List.mem_append_left _ g1, fs, (kc10_ y (fun e => hq3_ (e ▸ g1))).trans g2⟩)) (by decide +kernel) (by decide +kernel) (by decide +kernel) (by decide +kernel) (Nat.le_of_ble_eq_true rfl) (by decide +kernel) dJ7_copyOf_6403c_35 (fun F11_ h12_ k13_ => ?_)
  have h14_ : F11_ ea = .inl (G.2.2.1, 10, .inr (.inr (.inr (.inr fe)))) := (k13_ ea nq7_).trans h9_
  have kc15_ : ∀ b, b ≠ q1_ → F11_ b = F b := fun b q0 => (k13_ b q0).trans (kc10_ b q0)
  refine z_aload_n C dJ7_copyOf_6403c_38 rfl 0 rfl ?_
  refine z_aret0 C rfl (by first | exact Or.inl ⟨_, rfl⟩ | exact Or.inr ⟨_, rfl⟩) (by decide) (by decide) dJ7_copyOf_6403c_39 ?_
  exact ⟨q1_, rfl, rfl, hq3_, h12_, kc15_⟩

set_option maxHeartbeats 4000000 in
set_option maxRecDepth 100000 in
theorem c_J7_copyOf_1904c (l : Launch) (hlst : l.stackTraces = false) (G : zGt) (L : List Nat) (F : Nat → va_E) (ea : Nat) (fe : Nat → Option Nat) (hLe : ea ∈ L) (hFe : F ea = .inl (G.2.2.1, 10, .inr (.inr (.inr (.inr fe))))) (hel : ∀ i, i < 10 → ∀ y, fe i = some y → y ∈ L ∧ ∃ fs, F y = .inr (1, fs)) : zM l yJ7_copyOf_1904c wsJ7_copyOf_1904c 2 47 1 15 G L F [.ref ea, .int (nI 15)] (fun rv L1 F1 => ∃ q : Nat, rv = some (.ref q) ∧ L1 = L ++ [q] ∧ q ∉ L ∧ F1 q = .inl (G.2.2.1, 15, .inr (.inr (.inr (.inr (va_cpy fe (fun _ => none) 0 0 10))))) ∧ ∀ b, b ≠ q → F1 b = F b) := by
  refine z_of (cc := cJ7_copyOf_1904c) (nL := 2) (ret := (some (.array (.object "java/lang/Object")))) (own := RJ7) hlst (by decide +kernel) rfl rfl (Nat.le_of_ble_eq_true rfl) ?_
  intro p e s m below meth c A hnm C
  refine z_lvs (lv' := [(0, .ref ea), (1, .int (nI 15))]) rfl ?_
  refine z_aload_n C dJ7_copyOf_1904c_0 rfl 0 rfl ?_
  refine z_iload_n C dJ7_copyOf_1904c_1 rfl 1 rfl ?_
  refine z_aload_n C dJ7_copyOf_1904c_2 rfl 0 rfl ?_
  refine z_getC C hLe hFe (by decide +kernel) (by decide +kernel) (by decide +kernel) (by decide +kernel) (Nat.le_of_ble_eq_true rfl) (Nat.le_of_ble_eq_true rfl) dJ7_copyOf_1904c_3 ?_
  refine z_callS (As := [.ref ea, .int (nI 15), .ref G.2.2.2.2.2]) (st := []) (mc := 1) (ms := 15) C (c_J7_copyOf_6403c l hlst G L F ea fe hLe hFe hel) (va_cwS 3 C.1.2.2.2.2 gJ7_copyOf_1904c_J7_copyOf_6403c rfl rfl rfl (by decide +kernel) ⟨Nat.le_of_ble_eq_true rfl, Nat.le_of_ble_eq_true rfl⟩) rfl (Nat.le_of_ble_eq_true rfl) ⟨Nat.le_of_ble_eq_true rfl, Nat.le_of_ble_eq_true rfl⟩ dJ7_copyOf_1904c_6 (fun rv2_ L3_ F4_ hp5_ => ?_)
  obtain ⟨q1_, e6_, e7_, hq8_, h9_, k10_⟩ := hp5_
  rw [e6_, e7_]
  have hL11_ : ea ∈ (L ++ [q1_]) := List.mem_append_left _ hLe
  have nq12_ : ea ≠ q1_ := fun h9 => hq8_ (h9 ▸ hLe)
  have hL13_ : q1_ ∈ (L ++ [q1_]) := List.mem_append_right _ (List.mem_singleton.mpr rfl)
  have h14_ : F4_ ea = .inl (G.2.2.1, 10, .inr (.inr (.inr (.inr fe)))) := (k10_ ea nq12_).trans hFe
  have kc15_ : ∀ b, b ≠ q1_ → F4_ b = F b := fun b q0 => k10_ b q0
  refine z_stk (st' := [.ref q1_]) rfl ?_
  refine z_aret0 C rfl (by first | exact Or.inl ⟨_, rfl⟩ | exact Or.inr ⟨_, rfl⟩) (by decide) (by decide) dJ7_copyOf_1904c_9 ?_
  exact ⟨q1_, rfl, rfl, hq8_, h9_, kc15_⟩

set_option maxRecDepth 100000 in
theorem hin_Jx4a65c_grow_92f84_Jx4a65c : ∀ w ∈ u_ws RJx4a65c TJx4a65c 3, w ∈ wsJx4a65c_grow_92f84 := by decide +kernel
set_option maxHeartbeats 4000000 in
set_option maxRecDepth 100000 in
theorem c_Jx4a65c_grow_92f84a (l : Launch) (hlst : l.stackTraces = false) (G : zGt) (L : List Nat) (F : Nat → va_E) (h0 : Nat) (mo : Int32) (hL0 : h0 ∈ L) (hF0 : F h0 = .inr (0, [.int mo, .ref G.2.2.2.2.1, .int (nI 0)])) : zM l yJx4a65c_grow_92f84 wsJx4a65c_grow_92f84 3 68 1 15 G L F [.ref h0, .int (nI 1)] (fun rv L1 F1 => ∃ q : Nat, rv = some (.ref q) ∧ L1 = L ++ [q] ∧ q ∉ L ∧ F1 q = .inl (G.2.2.1, 10, .inr (.inr (.inr (.inr (fun _ => none))))) ∧ F1 h0 = .inr (0, [.int mo, .ref q, .int (nI 0)]) ∧ ∀ b, b ≠ h0 → b ≠ q → F1 b = F b) := by
  refine z_of (cc := cJx4a65c_grow_92f84) (nL := 4) (ret := (some (.array (.object "java/lang/Object")))) (own := RJx4a65c) hlst (by decide +kernel) rfl rfl (Nat.le_of_ble_eq_true rfl) ?_
  intro p e s m below meth c A hnm C
  refine z_lvs (lv' := [(0, .ref h0), (1, .int (nI 1))]) rfl ?_
  refine z_aload_n C dJx4a65c_grow_92f84_0 rfl 0 rfl ?_
  refine z_get (ref := "java/util/ArrayList") (v := .ref G.2.2.2.2.1) C hin_Jx4a65c_grow_92f84_Jx4a65c hL0 hF0 rfl 1 (by decide) (by decide +kernel) (fun _ h9 => h9) rfl dJx4a65c_grow_92f84_1 ?_
  refine z_tlen C dJx4a65c_grow_92f84_4 ?_
  refine z_istore_n (lv' := [(2, .int (nI 0)), (0, .ref h0), (1, .int (nI 1))]) C dJx4a65c_grow_92f84_5 rfl (by decide) rfl ?_
  refine z_iload_n C dJx4a65c_grow_92f84_6 rfl 0 rfl ?_
  refine z_if_gt C 20 ((0 : Int) < ((0 : Nat) : Int)) (zi_lt zi_0 (zi_N (n := 0) (by omega))) dJx4a65c_grow_92f84_7 (by decide) (fun c1_ => absurd c1_ (by omega)) (fun c1_ => ?_)
  refine z_aload_n C dJx4a65c_grow_92f84_10 rfl 1 rfl ?_
  refine z_get (ref := "java/util/ArrayList") (v := .ref G.2.2.2.2.1) C hin_Jx4a65c_grow_92f84_Jx4a65c hL0 hF0 rfl 1 (by decide) (by decide +kernel) (fun _ h9 => h9) rfl dJx4a65c_grow_92f84_11 ?_
  refine z_gets C (by decide +kernel) dJx4a65c_grow_92f84_14 ?_
  refine z_acmp_eqT C 45 rfl dJx4a65c_grow_92f84_17 (by decide) ?_
  refine z_aload_n C dJx4a65c_grow_92f84_45 rfl 1 rfl ?_
  refine z_bipush C (nI 10) dJx4a65c_grow_92f84_46 (by decide) ?_
  refine z_iload_n C dJx4a65c_grow_92f84_48 rfl 2 rfl ?_
  refine z_max C (nI 10) (by decide +kernel) (by decide +kernel) (by decide +kernel) (by decide +kernel) (Nat.le_of_ble_eq_true rfl) (Nat.le_of_ble_eq_true rfl) (Nat.le_of_ble_eq_true rfl) (Nat.le_of_ble_eq_true rfl) dJx4a65c_grow_92f84_49 (by decide) ?_
  refine z_newq C (by decide) (by decide +kernel) (Nat.le_of_ble_eq_true rfl) (Nat.le_of_ble_eq_true rfl) dJx4a65c_grow_92f84_52 (fun q2_ F3_ hq4_ h5_ k6_ => ?_)
  have hL7_ : h0 ∈ (L ++ [q2_]) := List.mem_append_left _ hL0
  have nq8_ : h0 ≠ q2_ := fun h9 => hq4_ (h9 ▸ hL0)
  have hL9_ : q2_ ∈ (L ++ [q2_]) := List.mem_append_right _ (List.mem_singleton.mpr rfl)
  have h10_ : F3_ h0 = .inr (0, [.int mo, .ref G.2.2.2.2.1, .int (nI 0)]) := (k6_ h0 nq8_).trans hF0
  have kc11_ : ∀ b, b ≠ q2_ → F3_ b = F b := fun b q0 => k6_ b q0
  refine z_dup_x1 C dJx4a65c_grow_92f84_55 rfl rfl ?_
  refine z_put (ref := "java/util/ArrayList") (v := .ref q2_) (fs' := [.int mo, .ref q2_, .int (nI 0)]) C hin_Jx4a65c_grow_92f84_Jx4a65c tyJx4a65c tyJx4a65c_ok nmJx4a65c hL7_ h10_ rfl 1 (by decide) (by decide +kernel) (fun _ h9 => h9) rfl rfl rfl (Nat.le_of_ble_eq_true rfl) rfl dJx4a65c_grow_92f84_56 (fun F12_ h13_ k14_ => ?_)
  have h15_ : F12_ q2_ = .inl (G.2.2.1, 10, .inr (.inr (.inr (.inr (fun _ => none))))) := (k14_ q2_ (Ne.symm nq8_)).trans h5_
  have kc16_ : ∀ b, b ≠ h0 → b ≠ q2_ → F12_ b = F b := fun b q0 q1 => (k14_ b q0).trans (kc11_ b q1)
  refine z_aret0 C rfl (by first | exact Or.inl ⟨_, rfl⟩ | exact Or.inr ⟨_, rfl⟩) (by decide) (by decide) dJx4a65c_grow_92f84_59 ?_
  exact ⟨q2_, rfl, rfl, hq4_, h15_, h13_, fun b g1 g2 => kc16_ b g1 g2⟩

set_option maxRecDepth 100000 in
theorem hin_Jx4a65c_grow_d5877_Jx4a65c : ∀ w ∈ u_ws RJx4a65c TJx4a65c 3, w ∈ wsJx4a65c_grow_d5877 := by decide +kernel
set_option maxHeartbeats 4000000 in
set_option maxRecDepth 100000 in
theorem c_Jx4a65c_grow_d5877a (l : Launch) (hlst : l.stackTraces = false) (G : zGt) (L : List Nat) (F : Nat → va_E) (h0 : Nat) (mo : Int32) (hL0 : h0 ∈ L) (hF0 : F h0 = .inr (0, [.int mo, .ref G.2.2.2.2.1, .int (nI 0)])) : zM l yJx4a65c_grow_d5877 wsJx4a65c_grow_d5877 4 91 1 15 G L F [.ref h0] (fun rv L1 F1 => ∃ q : Nat, rv = some (.ref q) ∧ L1 = L ++ [q] ∧ q ∉ L ∧ F1 q = .inl (G.2.2.1, 10, .inr (.inr (.inr (.inr (fun _ => none))))) ∧ F1 h0 = .inr (0, [.int mo, .ref q, .int (nI 0)]) ∧ ∀ b, b ≠ h0 → b ≠ q → F1 b = F b) := by
  refine z_of (cc := cJx4a65c_grow_d5877) (nL := 1) (ret := (some (.array (.object "java/lang/Object")))) (own := RJx4a65c) hlst (by decide +kernel) rfl rfl (Nat.le_of_ble_eq_true rfl) ?_
  intro p e s m below meth c A hnm C
  refine z_lvs (lv' := [(0, .ref h0)]) rfl ?_
  refine z_aload_n C dJx4a65c_grow_d5877_0 rfl 0 rfl ?_
  refine z_aload_n C dJx4a65c_grow_d5877_1 rfl 0 rfl ?_
  refine z_get (ref := "java/util/ArrayList") (v := .int (nI 0)) C hin_Jx4a65c_grow_d5877_Jx4a65c hL0 hF0 rfl 2 (by decide) (by decide +kernel) (fun _ h9 => h9) rfl dJx4a65c_grow_d5877_2 ?_
  refine z_iconst C (nI 1) dJx4a65c_grow_d5877_5 (by decide) ?_
  refine z_iadd C (nI 1) dJx4a65c_grow_d5877_6 (by decide) ?_
  refine z_callV (As := [.int (nI 1)]) (st := []) (mc := 1) (ms := 15) C hL0 hF0 rfl (c_Jx4a65c_grow_92f84a l hlst G L F h0 mo hL0 hF0) (cwV 1 C.1.2.2.2.2 gJx4a65c_grow_d5877_Jx4a65c_grow_92f84 rfl rfl rfl (by decide +kernel) ⟨Nat.le_of_ble_eq_true rfl, Nat.le_of_ble_eq_true rfl⟩) rfl (Nat.le_of_ble_eq_true rfl) ⟨Nat.le_of_ble_eq_true rfl, Nat.le_of_ble_eq_true rfl⟩ dJx4a65c_grow_d5877_7 (fun rv2_ L3_ F4_ hp5_ => ?_)
  obtain ⟨q1_, e6_, e7_, hq8_, h9_, h10_, k11_⟩ := hp5_
  rw [e6_, e7_]
  have hL12_ : h0 ∈ (L ++ [q1_]) := List.mem_append_left _ hL0
  have nq13_ : h0 ≠ q1_ := fun h9 => hq8_ (h9 ▸ hL0)
  have hL14_ : q1_ ∈ (L ++ [q1_]) := List.mem_append_right _ (List.mem_singleton.mpr rfl)
  have kc15_ : ∀ b, b ≠ h0 → b ≠ q1_ → F4_ b = F b := fun b q0 q1 => k11_ b q0 q1
  refine z_stk (st' := [.ref q1_]) rfl ?_
  refine z_aret0 C rfl (by first | exact Or.inl ⟨_, rfl⟩ | exact Or.inr ⟨_, rfl⟩) (by decide) (by decide) dJx4a65c_grow_d5877_10 ?_
  exact ⟨q1_, rfl, rfl, hq8_, h9_, h10_, fun b g1 g2 => kc15_ b g1 g2⟩

set_option maxRecDepth 100000 in
theorem hin_Jx4a65c_add_72be8_Jx4a65c : ∀ w ∈ u_ws RJx4a65c TJx4a65c 3, w ∈ wsJx4a65c_add_72be8 := by decide +kernel
set_option maxHeartbeats 4000000 in
set_option maxRecDepth 100000 in
theorem c_Jx4a65c_add_72be8a (l : Launch) (hlst : l.stackTraces = false) (G : zGt) (L : List Nat) (F : Nat → va_E) (h0 : Nat) (mo : Int32) (hL0 : h0 ∈ L) (hF0 : F h0 = .inr (0, [.int mo, .ref G.2.2.2.2.1, .int (nI 0)])) (vv : Nat) (fsv : List Value) (hLv : vv ∈ L) (hFv : F vv = .inr (1, fsv)) (fe : Nat → Option Nat) : zM l yJx4a65c_add_72be8 wsJx4a65c_add_72be8 5 111 1 15 G L F [.ref h0, .ref vv, .ref G.2.2.2.2.1, .int (nI 0)] (fun rv L1 F1 => ∃ (ea' N' : Nat) (f' : Nat → Option Nat), rv = none ∧ (L1 = L ∨ ∃ q, q ∉ L ∧ L1 = L ++ [q]) ∧ ea' ∈ L1 ∧ F1 ea' = .inl (G.2.2.1, N', .inr (.inr (.inr (.inr f')))) ∧ 0 + 1 ≤ N' ∧ (N' = 10 ∨ N' = 15) ∧ (∀ k, k < 0 → f' k = fe k) ∧ f' 0 = some vv ∧ F1 h0 = .inr (0, [.int mo, .ref ea', .int (nI (0 + 1))]) ∧ (∀ b, b ∈ L → b ≠ h0 → b ≠ G.2.2.2.2.1 → F1 b = F b) ∧ (ea' = G.2.2.2.2.1 ∨ ea' ∉ L)) := by
  refine z_of (cc := cJx4a65c_add_72be8) (nL := 4) (ret := none) (own := RJx4a65c) hlst (by decide +kernel) rfl rfl (Nat.le_of_ble_eq_true rfl) ?_
  intro p e s m below meth c A hnm C
  refine z_lvs (lv' := [(0, .ref h0), (1, .ref vv), (2, .ref G.2.2.2.2.1), (3, .int (nI 0))]) rfl ?_
  refine z_iload_n C dJx4a65c_add_72be8_0 rfl 3 rfl ?_
  refine z_aload_n C dJx4a65c_add_72be8_1 rfl 2 rfl ?_
  refine z_tlen C dJx4a65c_add_72be8_2 ?_
  refine z_icmp_ne C 11 (((0 : Nat) : Int) = ((0 : Nat) : Int)) (zi_eq (zi_N (n := 0) (by omega)) (zi_N (n := 0) (by omega))) dJx4a65c_add_72be8_3 (by decide) (fun c1_ => absurd c1_ (by omega)) (fun c1_ => ?_)
  refine z_aload_n C dJx4a65c_add_72be8_6 rfl 0 rfl ?_
  refine z_callV (As := []) (st := []) (mc := 1) (ms := 15) C hL0 hF0 rfl (c_Jx4a65c_grow_d5877a l hlst G L F h0 mo hL0 hF0) (cwV 0 C.1.2.2.2.2 gJx4a65c_add_72be8_Jx4a65c_grow_d5877 rfl rfl rfl (by decide +kernel) ⟨Nat.le_of_ble_eq_true rfl, Nat.le_of_ble_eq_true rfl⟩) rfl (Nat.le_of_ble_eq_true rfl) ⟨Nat.le_of_ble_eq_true rfl, Nat.le_of_ble_eq_true rfl⟩ dJx4a65c_add_72be8_7 (fun rv3_ L4_ F5_ hp6_ => ?_)
  obtain ⟨q2_, e7_, e8_, hq9_, h10_, h11_, k12_⟩ := hp6_
  rw [e7_, e8_]
  have hL13_ : h0 ∈ (L ++ [q2_]) := List.mem_append_left _ hL0
  have nq14_ : h0 ≠ q2_ := fun h9 => hq9_ (h9 ▸ hL0)
  have hL15_ : vv ∈ (L ++ [q2_]) := List.mem_append_left _ hLv
  have nq16_ : vv ≠ q2_ := fun h9 => hq9_ (h9 ▸ hLv)
  have hL17_ : q2_ ∈ (L ++ [q2_]) := List.mem_append_right _ (List.mem_singleton.mpr rfl)
  have h18_ : F5_ vv = .inr (1, fsv) := (k12_ vv (zne hFv hF0 rfl) nq16_).trans hFv
  have kc19_ : ∀ b, b ≠ h0 → b ≠ q2_ → F5_ b = F b := fun b q0 q1 => k12_ b q0 q1
  refine z_stk (st' := [.ref q2_]) rfl ?_
  refine z_astore_n (lv' := [(2, .ref q2_), (0, .ref h0), (1, .ref vv), (3, .int (nI 0))]) C dJx4a65c_add_72be8_10 rfl (by decide) rfl ?_
  refine z_aload_n C dJx4a65c_add_72be8_11 rfl 0 rfl ?_
  refine z_iload_n C dJx4a65c_add_72be8_12 rfl 3 rfl ?_
  refine z_aload_n C dJx4a65c_add_72be8_13 rfl 2 rfl ?_
  refine z_astq C hL17_ h10_ (by omega) (by omega) hL15_ h18_ dJx4a65c_add_72be8_14 (fun F20_ h21_ k22_ => ?_)
  have h23_ : F20_ h0 = .inr (0, [.int mo, .ref q2_, .int (nI 0)]) := (k22_ h0 nq14_).trans h11_
  have h24_ : F20_ vv = .inr (1, fsv) := (k22_ vv nq16_).trans h18_
  have kc25_ : ∀ b, b ≠ h0 → b ≠ q2_ → F20_ b = F b := fun b q0 q1 => (k22_ b q1).trans (kc19_ b q0 q1)
  refine z_aload_n C dJx4a65c_add_72be8_15 rfl 1 rfl ?_
  refine z_iload_n C dJx4a65c_add_72be8_16 rfl 3 rfl ?_
  refine z_iconst C (nI 1) dJx4a65c_add_72be8_17 (by decide) ?_
  refine z_iadd C (nI (0 + 1)) dJx4a65c_add_72be8_18 (nI_add 0 1) ?_
  refine z_put (ref := "java/util/ArrayList") (v := .int (nI (0 + 1))) (fs' := [.int mo, .ref q2_, .int (nI (0 + 1))]) C hin_Jx4a65c_add_72be8_Jx4a65c tyJx4a65c tyJx4a65c_ok nmJx4a65c hL13_ h23_ rfl 2 (by decide) (by decide +kernel) (fun _ h9 => h9) rfl rfl rfl (Nat.le_of_ble_eq_true rfl) rfl dJx4a65c_add_72be8_19 (fun F26_ h27_ k28_ => ?_)
  have h29_ : F26_ vv = .inr (1, fsv) := (k28_ vv (zne h24_ h23_ rfl)).trans h24_
  have h30_ : F26_ q2_ = .inl (G.2.2.1, 10, .inr (.inr (.inr (.inr (va_up ((fun _ => none)) 0 (some vv)))))) := (k28_ q2_ (Ne.symm nq14_)).trans h21_
  have kc31_ : ∀ b, b ≠ h0 → b ≠ q2_ → F26_ b = F b := fun b q0 q1 => (k28_ b q0).trans (kc25_ b q0 q1)
  refine z_vret0 C rfl (by decide) (by decide) dJx4a65c_add_72be8_22 ?_
  exact ⟨q2_, 10, _, rfl, Or.inr ⟨q2_, hq9_, rfl⟩, hL17_, h30_, by omega, Or.inl rfl, fun k hk => absurd hk (Nat.not_lt_zero _), va_up_self _ _ _, h27_, fun b hb g1 g2 => kc31_ b g1 (fun e => hq9_ (e ▸ hb)), Or.inr hq9_⟩

set_option maxRecDepth 100000 in
theorem hin_Jx4a65c_grow_92f84c_Jx4a65c : ∀ w ∈ u_ws RJx4a65c TJx4a65c 3, w ∈ wsJx4a65c_grow_92f84 := by decide +kernel
set_option maxHeartbeats 4000000 in
set_option maxRecDepth 100000 in
theorem c_Jx4a65c_grow_92f84c (l : Launch) (hlst : l.stackTraces = false) (G : zGt) (L : List Nat) (F : Nat → va_E) (h0 : Nat) (mo : Int32) (ea : Nat) (hL0 : h0 ∈ L) (hF0 : F h0 = .inr (0, [.int mo, .ref ea, .int (nI 10)])) (fe : Nat → Option Nat) (hLe : ea ∈ L) (hFe : F ea = .inl (G.2.2.1, 10, .inr (.inr (.inr (.inr fe))))) (hel : ∀ i, i < 10 → ∀ y, fe i = some y → y ∈ L ∧ ∃ fs, F y = .inr (1, fs)) : zM l yJx4a65c_grow_92f84 wsJx4a65c_grow_92f84 3 68 1 15 G L F [.ref h0, .int (nI 11)] (fun rv L1 F1 => ∃ q : Nat, rv = some (.ref q) ∧ L1 = L ++ [q] ∧ q ∉ L ∧ F1 q = .inl (G.2.2.1, 15, .inr (.inr (.inr (.inr (va_cpy fe (fun _ => none) 0 0 10))))) ∧ F1 h0 = .inr (0, [.int mo, .ref q, .int (nI 10)]) ∧ ∀ b, b ≠ h0 → b ≠ q → F1 b = F b) := by
  refine z_of (cc := cJx4a65c_grow_92f84) (nL := 4) (ret := (some (.array (.object "java/lang/Object")))) (own := RJx4a65c) hlst (by decide +kernel) rfl rfl (Nat.le_of_ble_eq_true rfl) ?_
  intro p e s m below meth c A hnm C
  refine z_lvs (lv' := [(0, .ref h0), (1, .int (nI 11))]) rfl ?_
  refine z_aload_n C dJx4a65c_grow_92f84_0 rfl 0 rfl ?_
  refine z_get (ref := "java/util/ArrayList") (v := .ref ea) C hin_Jx4a65c_grow_92f84c_Jx4a65c hL0 hF0 rfl 1 (by decide) (by decide +kernel) (fun _ h9 => h9) rfl dJx4a65c_grow_92f84_1 ?_
  refine z_alenq C hLe hFe dJx4a65c_grow_92f84_4 ?_
  refine z_istore_n (lv' := [(2, .int (nI 10)), (0, .ref h0), (1, .int (nI 11))]) C dJx4a65c_grow_92f84_5 rfl (by decide) rfl ?_
  refine z_iload_n C dJx4a65c_grow_92f84_6 rfl 0 rfl ?_
  refine z_if_gt C 20 ((0 : Int) < ((10 : Nat) : Int)) (zi_lt zi_0 (zi_N (n := 10) (by omega))) dJx4a65c_grow_92f84_7 (by decide) (fun c1_ => ?_) (fun c1_ => absurd c1_ (by omega))
  refine z_iload_n C dJx4a65c_grow_92f84_20 rfl 0 rfl ?_
  refine z_iload_n C dJx4a65c_grow_92f84_21 rfl 2 rfl ?_
  refine z_iload_n C dJx4a65c_grow_92f84_22 rfl 0 rfl ?_
  refine z_isub C (nI 1) dJx4a65c_grow_92f84_23 (by decide) ?_
  refine z_iload_n C dJx4a65c_grow_92f84_24 rfl 0 rfl ?_
  refine z_iconst C (nI 1) dJx4a65c_grow_92f84_25 (by decide) ?_
  refine z_ishr C (nI 5) dJx4a65c_grow_92f84_26 (by decide) ?_
  refine z_callS (As := [.int (nI 10), .int (nI 1), .int (nI 5)]) (st := []) (mc := 0) (ms := 0) C (c_J8_newLength_cabcc l hlst G L F ) (va_cwS 3 C.1.2.2.2.2 gJx4a65c_grow_92f84_J8_newLength_cabcc rfl rfl rfl (by decide +kernel) ⟨Nat.le_of_ble_eq_true rfl, Nat.le_of_ble_eq_true rfl⟩) rfl (Nat.le_of_ble_eq_true rfl) ⟨Nat.le_of_ble_eq_true rfl, Nat.le_of_ble_eq_true rfl⟩ dJx4a65c_grow_92f84_27 (z_p ?_)
  refine z_stk (st' := [.int (nI 15)]) rfl ?_
  refine z_istore_n (lv' := [(3, .int (nI 15)), (2, .int (nI 10)), (0, .ref h0), (1, .int (nI 11))]) C dJx4a65c_grow_92f84_30 rfl (by decide) rfl ?_
  refine z_aload_n C dJx4a65c_grow_92f84_31 rfl 2 rfl ?_
  refine z_aload_n C dJx4a65c_grow_92f84_32 rfl 2 rfl ?_
  refine z_get (ref := "java/util/ArrayList") (v := .ref ea) C hin_Jx4a65c_grow_92f84c_Jx4a65c hL0 hF0 rfl 1 (by decide) (by decide +kernel) (fun _ h9 => h9) rfl dJx4a65c_grow_92f84_33 ?_
  refine z_iload_n C dJx4a65c_grow_92f84_36 rfl 0 rfl ?_
  refine z_callS (As := [.ref ea, .int (nI 15)]) (st := [.ref h0]) (mc := 1) (ms := 15) C (c_J7_copyOf_1904c l hlst G L F ea fe hLe hFe hel) (va_cwS 2 C.1.2.2.2.2 gJx4a65c_grow_92f84_J7_copyOf_1904c rfl rfl rfl (by decide +kernel) ⟨Nat.le_of_ble_eq_true rfl, Nat.le_of_ble_eq_true rfl⟩) rfl (Nat.le_of_ble_eq_true rfl) ⟨Nat.le_of_ble_eq_true rfl, Nat.le_of_ble_eq_true rfl⟩ dJx4a65c_grow_92f84_37 (fun rv3_ L4_ F5_ hp6_ => ?_)
  obtain ⟨q2_, e7_, e8_, hq9_, h10_, k11_⟩ := hp6_
  rw [e7_, e8_]
  have hL12_ : h0 ∈ (L ++ [q2_]) := List.mem_append_left _ hL0
  have nq13_ : h0 ≠ q2_ := fun h9 => hq9_ (h9 ▸ hL0)
  have hL14_ : ea ∈ (L ++ [q2_]) := List.mem_append_left _ hLe
  have nq15_ : ea ≠ q2_ := fun h9 => hq9_ (h9 ▸ hLe)
  have hL16_ : q2_ ∈ (L ++ [q2_]) := List.mem_append_right _ (List.mem_singleton.mpr rfl)
  have h17_ : F5_ h0 = .inr (0, [.int mo, .ref ea, .int (nI 10)]) := (k11_ h0 nq13_).trans hF0
  have h18_ : F5_ ea = .inl (G.2.2.1, 10, .inr (.inr (.inr (.inr fe)))) := (k11_ ea nq15_).trans hFe
  have kc19_ : ∀ b, b ≠ q2_ → F5_ b = F b := fun b q0 => k11_ b q0
  refine z_stk (st' := [.ref q2_, .ref h0]) rfl ?_
  refine z_dup_x1 C dJx4a65c_grow_92f84_40 rfl rfl ?_
  refine z_put (ref := "java/util/ArrayList") (v := .ref q2_) (fs' := [.int mo, .ref q2_, .int (nI 10)]) C hin_Jx4a65c_grow_92f84c_Jx4a65c tyJx4a65c tyJx4a65c_ok nmJx4a65c hL12_ h17_ rfl 1 (by decide) (by decide +kernel) (fun _ h9 => h9) rfl rfl rfl (Nat.le_of_ble_eq_true rfl) rfl dJx4a65c_grow_92f84_41 (fun F20_ h21_ k22_ => ?_)
  have h23_ : F20_ ea = .inl (G.2.2.1, 10, .inr (.inr (.inr (.inr fe)))) := (k22_ ea (zne h18_ h17_ rfl)).trans h18_
  have h24_ : F20_ q2_ = .inl (G.2.2.1, 15, .inr (.inr (.inr (.inr (va_cpy fe (fun _ => none) 0 0 10))))) := (k22_ q2_ (Ne.symm nq13_)).trans h10_
  have kc25_ : ∀ b, b ≠ h0 → b ≠ q2_ → F20_ b = F b := fun b q0 q1 => (k22_ b q0).trans (kc19_ b q1)
  refine z_aret0 C rfl (by first | exact Or.inl ⟨_, rfl⟩ | exact Or.inr ⟨_, rfl⟩) (by decide) (by decide) dJx4a65c_grow_92f84_44 ?_
  exact ⟨q2_, rfl, rfl, hq9_, h24_, h21_, fun b g1 g2 => kc25_ b g1 g2⟩

set_option maxRecDepth 100000 in
theorem hin_Jx4a65c_grow_d5877c_Jx4a65c : ∀ w ∈ u_ws RJx4a65c TJx4a65c 3, w ∈ wsJx4a65c_grow_d5877 := by decide +kernel
set_option maxHeartbeats 4000000 in
set_option maxRecDepth 100000 in
theorem c_Jx4a65c_grow_d5877c (l : Launch) (hlst : l.stackTraces = false) (G : zGt) (L : List Nat) (F : Nat → va_E) (h0 : Nat) (mo : Int32) (ea : Nat) (hL0 : h0 ∈ L) (hF0 : F h0 = .inr (0, [.int mo, .ref ea, .int (nI 10)])) (fe : Nat → Option Nat) (hLe : ea ∈ L) (hFe : F ea = .inl (G.2.2.1, 10, .inr (.inr (.inr (.inr fe))))) (hel : ∀ i, i < 10 → ∀ y, fe i = some y → y ∈ L ∧ ∃ fs, F y = .inr (1, fs)) : zM l yJx4a65c_grow_d5877 wsJx4a65c_grow_d5877 4 91 1 15 G L F [.ref h0] (fun rv L1 F1 => ∃ q : Nat, rv = some (.ref q) ∧ L1 = L ++ [q] ∧ q ∉ L ∧ F1 q = .inl (G.2.2.1, 15, .inr (.inr (.inr (.inr (va_cpy fe (fun _ => none) 0 0 10))))) ∧ F1 h0 = .inr (0, [.int mo, .ref q, .int (nI 10)]) ∧ ∀ b, b ≠ h0 → b ≠ q → F1 b = F b) := by
  refine z_of (cc := cJx4a65c_grow_d5877) (nL := 1) (ret := (some (.array (.object "java/lang/Object")))) (own := RJx4a65c) hlst (by decide +kernel) rfl rfl (Nat.le_of_ble_eq_true rfl) ?_
  intro p e s m below meth c A hnm C
  refine z_lvs (lv' := [(0, .ref h0)]) rfl ?_
  refine z_aload_n C dJx4a65c_grow_d5877_0 rfl 0 rfl ?_
  refine z_aload_n C dJx4a65c_grow_d5877_1 rfl 0 rfl ?_
  refine z_get (ref := "java/util/ArrayList") (v := .int (nI 10)) C hin_Jx4a65c_grow_d5877c_Jx4a65c hL0 hF0 rfl 2 (by decide) (by decide +kernel) (fun _ h9 => h9) rfl dJx4a65c_grow_d5877_2 ?_
  refine z_iconst C (nI 1) dJx4a65c_grow_d5877_5 (by decide) ?_
  refine z_iadd C (nI 11) dJx4a65c_grow_d5877_6 (by decide) ?_
  refine z_callV (As := [.int (nI 11)]) (st := []) (mc := 1) (ms := 15) C hL0 hF0 rfl (c_Jx4a65c_grow_92f84c l hlst G L F h0 mo ea hL0 hF0 fe hLe hFe hel) (cwV 1 C.1.2.2.2.2 gJx4a65c_grow_d5877_Jx4a65c_grow_92f84 rfl rfl rfl (by decide +kernel) ⟨Nat.le_of_ble_eq_true rfl, Nat.le_of_ble_eq_true rfl⟩) rfl (Nat.le_of_ble_eq_true rfl) ⟨Nat.le_of_ble_eq_true rfl, Nat.le_of_ble_eq_true rfl⟩ dJx4a65c_grow_d5877_7 (fun rv2_ L3_ F4_ hp5_ => ?_)
  obtain ⟨q1_, e6_, e7_, hq8_, h9_, h10_, k11_⟩ := hp5_
  rw [e6_, e7_]
  have hL12_ : h0 ∈ (L ++ [q1_]) := List.mem_append_left _ hL0
  have nq13_ : h0 ≠ q1_ := fun h9 => hq8_ (h9 ▸ hL0)
  have hL14_ : ea ∈ (L ++ [q1_]) := List.mem_append_left _ hLe
  have nq15_ : ea ≠ q1_ := fun h9 => hq8_ (h9 ▸ hLe)
  have hL16_ : q1_ ∈ (L ++ [q1_]) := List.mem_append_right _ (List.mem_singleton.mpr rfl)
  have h17_ : F4_ ea = .inl (G.2.2.1, 10, .inr (.inr (.inr (.inr fe)))) := (k11_ ea (zne hFe hF0 rfl) nq15_).trans hFe
  have kc18_ : ∀ b, b ≠ h0 → b ≠ q1_ → F4_ b = F b := fun b q0 q1 => k11_ b q0 q1
  refine z_stk (st' := [.ref q1_]) rfl ?_
  refine z_aret0 C rfl (by first | exact Or.inl ⟨_, rfl⟩ | exact Or.inr ⟨_, rfl⟩) (by decide) (by decide) dJx4a65c_grow_d5877_10 ?_
  exact ⟨q1_, rfl, rfl, hq8_, h9_, h10_, fun b g1 g2 => kc18_ b g1 g2⟩

set_option maxRecDepth 100000 in
theorem hin_Jx4a65c_add_72be8c_Jx4a65c : ∀ w ∈ u_ws RJx4a65c TJx4a65c 3, w ∈ wsJx4a65c_add_72be8 := by decide +kernel
set_option maxHeartbeats 4000000 in
set_option maxRecDepth 100000 in
theorem c_Jx4a65c_add_72be8c (l : Launch) (hlst : l.stackTraces = false) (G : zGt) (L : List Nat) (F : Nat → va_E) (h0 : Nat) (mo : Int32) (ea : Nat) (hL0 : h0 ∈ L) (hF0 : F h0 = .inr (0, [.int mo, .ref ea, .int (nI 10)])) (fe : Nat → Option Nat) (hLe : ea ∈ L) (hFe : F ea = .inl (G.2.2.1, 10, .inr (.inr (.inr (.inr fe))))) (hel : ∀ i, i < 10 → ∀ y, fe i = some y → y ∈ L ∧ ∃ fs, F y = .inr (1, fs)) (vv : Nat) (fsv : List Value) (hLv : vv ∈ L) (hFv : F vv = .inr (1, fsv)) : zM l yJx4a65c_add_72be8 wsJx4a65c_add_72be8 5 111 1 15 G L F [.ref h0, .ref vv, .ref ea, .int (nI 10)] (fun rv L1 F1 => ∃ (ea' N' : Nat) (f' : Nat → Option Nat), rv = none ∧ (L1 = L ∨ ∃ q, q ∉ L ∧ L1 = L ++ [q]) ∧ ea' ∈ L1 ∧ F1 ea' = .inl (G.2.2.1, N', .inr (.inr (.inr (.inr f')))) ∧ 10 + 1 ≤ N' ∧ (N' = 10 ∨ N' = 15) ∧ (∀ k, k < 10 → f' k = fe k) ∧ f' 10 = some vv ∧ F1 h0 = .inr (0, [.int mo, .ref ea', .int (nI (10 + 1))]) ∧ (∀ b, b ∈ L → b ≠ h0 → b ≠ ea → F1 b = F b) ∧ (ea' = ea ∨ ea' ∉ L)) := by
  refine z_of (cc := cJx4a65c_add_72be8) (nL := 4) (ret := none) (own := RJx4a65c) hlst (by decide +kernel) rfl rfl (Nat.le_of_ble_eq_true rfl) ?_
  intro p e s m below meth c A hnm C
  refine z_lvs (lv' := [(0, .ref h0), (1, .ref vv), (2, .ref ea), (3, .int (nI 10))]) rfl ?_
  refine z_iload_n C dJx4a65c_add_72be8_0 rfl 3 rfl ?_
  refine z_aload_n C dJx4a65c_add_72be8_1 rfl 2 rfl ?_
  refine z_alenq C hLe hFe dJx4a65c_add_72be8_2 ?_
  refine z_icmp_ne C 11 (((10 : Nat) : Int) = ((10 : Nat) : Int)) (zi_eq (zi_N (n := 10) (by omega)) (zi_N (n := 10) (by omega))) dJx4a65c_add_72be8_3 (by decide) (fun c1_ => absurd c1_ (by omega)) (fun c1_ => ?_)
  refine z_aload_n C dJx4a65c_add_72be8_6 rfl 0 rfl ?_
  refine z_callV (As := []) (st := []) (mc := 1) (ms := 15) C hL0 hF0 rfl (c_Jx4a65c_grow_d5877c l hlst G L F h0 mo ea hL0 hF0 fe hLe hFe hel) (cwV 0 C.1.2.2.2.2 gJx4a65c_add_72be8_Jx4a65c_grow_d5877 rfl rfl rfl (by decide +kernel) ⟨Nat.le_of_ble_eq_true rfl, Nat.le_of_ble_eq_true rfl⟩) rfl (Nat.le_of_ble_eq_true rfl) ⟨Nat.le_of_ble_eq_true rfl, Nat.le_of_ble_eq_true rfl⟩ dJx4a65c_add_72be8_7 (fun rv3_ L4_ F5_ hp6_ => ?_)
  obtain ⟨q2_, e7_, e8_, hq9_, h10_, h11_, k12_⟩ := hp6_
  rw [e7_, e8_]
  have hL13_ : h0 ∈ (L ++ [q2_]) := List.mem_append_left _ hL0
  have nq14_ : h0 ≠ q2_ := fun h9 => hq9_ (h9 ▸ hL0)
  have hL15_ : ea ∈ (L ++ [q2_]) := List.mem_append_left _ hLe
  have nq16_ : ea ≠ q2_ := fun h9 => hq9_ (h9 ▸ hLe)
  have hL17_ : vv ∈ (L ++ [q2_]) := List.mem_append_left _ hLv
  have nq18_ : vv ≠ q2_ := fun h9 => hq9_ (h9 ▸ hLv)
  have hL19_ : q2_ ∈ (L ++ [q2_]) := List.mem_append_right _ (List.mem_singleton.mpr rfl)
  have h20_ : F5_ ea = .inl (G.2.2.1, 10, .inr (.inr (.inr (.inr fe)))) := (k12_ ea (zne hFe hF0 rfl) nq16_).trans hFe
  have h21_ : F5_ vv = .inr (1, fsv) := (k12_ vv (zne hFv hF0 rfl) nq18_).trans hFv
  have kc22_ : ∀ b, b ≠ h0 → b ≠ q2_ → F5_ b = F b := fun b q0 q1 => k12_ b q0 q1
  refine z_stk (st' := [.ref q2_]) rfl ?_
  refine z_astore_n (lv' := [(2, .ref q2_), (0, .ref h0), (1, .ref vv), (3, .int (nI 10))]) C dJx4a65c_add_72be8_10 rfl (by decide) rfl ?_
  refine z_aload_n C dJx4a65c_add_72be8_11 rfl 0 rfl ?_
  refine z_iload_n C dJx4a65c_add_72be8_12 rfl 3 rfl ?_
  refine z_aload_n C dJx4a65c_add_72be8_13 rfl 2 rfl ?_
  refine z_astq C hL19_ h10_ (by omega) (by omega) hL17_ h21_ dJx4a65c_add_72be8_14 (fun F23_ h24_ k25_ => ?_)
  have h26_ : F23_ h0 = .inr (0, [.int mo, .ref q2_, .int (nI 10)]) := (k25_ h0 nq14_).trans h11_
  have h27_ : F23_ ea = .inl (G.2.2.1, 10, .inr (.inr (.inr (.inr fe)))) := (k25_ ea nq16_).trans h20_
  have h28_ : F23_ vv = .inr (1, fsv) := (k25_ vv nq18_).trans h21_
  have kc29_ : ∀ b, b ≠ h0 → b ≠ q2_ → F23_ b = F b := fun b q0 q1 => (k25_ b q1).trans (kc22_ b q0 q1)
  refine z_aload_n C dJx4a65c_add_72be8_15 rfl 1 rfl ?_
  refine z_iload_n C dJx4a65c_add_72be8_16 rfl 3 rfl ?_
  refine z_iconst C (nI 1) dJx4a65c_add_72be8_17 (by decide) ?_
  refine z_iadd C (nI (10 + 1)) dJx4a65c_add_72be8_18 (nI_add 10 1) ?_
  refine z_put (ref := "java/util/ArrayList") (v := .int (nI (10 + 1))) (fs' := [.int mo, .ref q2_, .int (nI (10 + 1))]) C hin_Jx4a65c_add_72be8c_Jx4a65c tyJx4a65c tyJx4a65c_ok nmJx4a65c hL13_ h26_ rfl 2 (by decide) (by decide +kernel) (fun _ h9 => h9) rfl rfl rfl (Nat.le_of_ble_eq_true rfl) rfl dJx4a65c_add_72be8_19 (fun F30_ h31_ k32_ => ?_)
  have h33_ : F30_ ea = .inl (G.2.2.1, 10, .inr (.inr (.inr (.inr fe)))) := (k32_ ea (zne h27_ h26_ rfl)).trans h27_
  have h34_ : F30_ vv = .inr (1, fsv) := (k32_ vv (zne h28_ h26_ rfl)).trans h28_
  have h35_ : F30_ q2_ = .inl (G.2.2.1, 15, .inr (.inr (.inr (.inr (va_up ((va_cpy fe (fun _ => none) 0 0 10)) 10 (some vv)))))) := (k32_ q2_ (Ne.symm nq14_)).trans h24_
  have kc36_ : ∀ b, b ≠ h0 → b ≠ q2_ → F30_ b = F b := fun b q0 q1 => (k32_ b q0).trans (kc29_ b q0 q1)
  refine z_vret0 C rfl (by decide) (by decide) dJx4a65c_add_72be8_22 ?_
  exact ⟨q2_, 15, _, rfl, Or.inr ⟨q2_, hq9_, rfl⟩, hL19_, h35_, by omega, Or.inr rfl, fun k hk => by rw [va_up_ne _ _ (by omega), pk_cpy_in (by omega) (by omega)]; congr 1; omega, va_up_self _ _ _, h31_, fun b hb g1 g2 => kc36_ b g1 (fun e => hq9_ (e ▸ hb)), Or.inr hq9_⟩

set_option maxRecDepth 100000 in
theorem hin_Jx4a65c_add_72be8b_Jx4a65c : ∀ w ∈ u_ws RJx4a65c TJx4a65c 3, w ∈ wsJx4a65c_add_72be8 := by decide +kernel
set_option maxHeartbeats 4000000 in
set_option maxRecDepth 100000 in
theorem c_Jx4a65c_add_72be8b (l : Launch) (hlst : l.stackTraces = false) (G : zGt) (L : List Nat) (F : Nat → va_E) (h0 : Nat) (mo : Int32) (ea n : Nat) (hL0 : h0 ∈ L) (hF0 : F h0 = .inr (0, [.int mo, .ref ea, .int (nI n)])) (nn : Nat) (fe : Nat → Option Nat) (hLe : ea ∈ L) (hFe : F ea = .inl (G.2.2.1, nn, .inr (.inr (.inr (.inr fe))))) (hnn : n < nn) (hcap : nn = 10 ∨ nn = 15) (vv : Nat) (fsv : List Value) (hLv : vv ∈ L) (hFv : F vv = .inr (1, fsv)) : zM l yJx4a65c_add_72be8 wsJx4a65c_add_72be8 5 111 1 15 G L F [.ref h0, .ref vv, .ref ea, .int (nI n)] (fun rv L1 F1 => ∃ (ea' N' : Nat) (f' : Nat → Option Nat), rv = none ∧ (L1 = L ∨ ∃ q, q ∉ L ∧ L1 = L ++ [q]) ∧ ea' ∈ L1 ∧ F1 ea' = .inl (G.2.2.1, N', .inr (.inr (.inr (.inr f')))) ∧ n + 1 ≤ N' ∧ (N' = 10 ∨ N' = 15) ∧ (∀ k, k < n → f' k = fe k) ∧ f' n = some vv ∧ F1 h0 = .inr (0, [.int mo, .ref ea', .int (nI (n + 1))]) ∧ (∀ b, b ∈ L → b ≠ h0 → b ≠ ea → F1 b = F b) ∧ (ea' = ea ∨ ea' ∉ L)) := by
  refine z_of (cc := cJx4a65c_add_72be8) (nL := 4) (ret := none) (own := RJx4a65c) hlst (by decide +kernel) rfl rfl (Nat.le_of_ble_eq_true rfl) ?_
  intro p e s m below meth c A hnm C
  refine z_lvs (lv' := [(0, .ref h0), (1, .ref vv), (2, .ref ea), (3, .int (nI n))]) rfl ?_
  refine z_iload_n C dJx4a65c_add_72be8_0 rfl 3 rfl ?_
  refine z_aload_n C dJx4a65c_add_72be8_1 rfl 2 rfl ?_
  refine z_alenq C hLe hFe dJx4a65c_add_72be8_2 ?_
  refine z_icmp_ne C 11 (((n : Nat) : Int) = ((nn : Nat) : Int)) (zi_eq (zi_N (n := n) (by omega)) (zi_N (n := nn) (by omega))) dJx4a65c_add_72be8_3 (by decide) (fun c1_ => ?_) (fun c1_ => absurd c1_ (by omega))
  refine z_aload_n C dJx4a65c_add_72be8_11 rfl 2 rfl ?_
  refine z_iload_n C dJx4a65c_add_72be8_12 rfl 3 rfl ?_
  refine z_aload_n C dJx4a65c_add_72be8_13 rfl 1 rfl ?_
  refine z_astq C hLe hFe (by omega) (by omega) hLv hFv dJx4a65c_add_72be8_14 (fun F2_ h3_ k4_ => ?_)
  have h5_ : F2_ h0 = .inr (0, [.int mo, .ref ea, .int (nI n)]) := (k4_ h0 (zne hF0 hFe rfl)).trans hF0
  have h6_ : F2_ vv = .inr (1, fsv) := (k4_ vv (zne hFv hFe rfl)).trans hFv
  have kc7_ : ∀ b, b ≠ ea → F2_ b = F b := fun b q0 => k4_ b q0
  refine z_aload_n C dJx4a65c_add_72be8_15 rfl 0 rfl ?_
  refine z_iload_n C dJx4a65c_add_72be8_16 rfl 3 rfl ?_
  refine z_iconst C (nI 1) dJx4a65c_add_72be8_17 (by decide) ?_
  refine z_iadd C (nI (n + 1)) dJx4a65c_add_72be8_18 (nI_add n 1) ?_
  refine z_put (ref := "java/util/ArrayList") (v := .int (nI (n + 1))) (fs' := [.int mo, .ref ea, .int (nI (n + 1))]) C hin_Jx4a65c_add_72be8b_Jx4a65c tyJx4a65c tyJx4a65c_ok nmJx4a65c hL0 h5_ rfl 2 (by decide) (by decide +kernel) (fun _ h9 => h9) rfl rfl rfl (Nat.le_of_ble_eq_true rfl) rfl dJx4a65c_add_72be8_19 (fun F8_ h9_ k10_ => ?_)
  have h11_ : F8_ ea = .inl (G.2.2.1, nn, .inr (.inr (.inr (.inr (va_up fe n (some vv)))))) := (k10_ ea (zne h3_ h5_ rfl)).trans h3_
  have h12_ : F8_ vv = .inr (1, fsv) := (k10_ vv (zne h6_ h5_ rfl)).trans h6_
  have kc13_ : ∀ b, b ≠ ea → b ≠ h0 → F8_ b = F b := fun b q0 q1 => (k10_ b q1).trans (kc7_ b q0)
  refine z_vret0 C rfl (by decide) (by decide) dJx4a65c_add_72be8_22 ?_
  exact ⟨ea, nn, _, rfl, Or.inl rfl, hLe, h11_, by omega, hcap, fun k hk => va_up_ne _ _ (by omega), va_up_self _ _ _, h9_, fun b hb g1 g2 => kc13_ b g2 g1, Or.inl rfl⟩

theorem c_Jx4a65c_add_72be8 (l : Launch) (hlst : l.stackTraces = false) (G : zGt) (L : List Nat) (F : Nat → va_E) (h0 : Nat) (mo : Int32) (ea n : Nat) (hL0 : h0 ∈ L) (hF0 : F h0 = .inr (0, [.int mo, .ref ea, .int (nI n)])) (nn : Nat) (fe : Nat → Option Nat) (hn : n < 12) (hok : ((n = 0 ∧ ea = G.2.2.2.2.1) ∨ (ea ∈ L ∧ F ea = .inl (G.2.2.1, nn, .inr (.inr (.inr (.inr fe)))) ∧ n ≤ nn ∧ (nn = 10 ∨ nn = 15)))) (hel : (∀ i, i < n → ∀ y, fe i = some y → y ∈ L ∧ ∃ fs, F y = .inr (1, fs))) (vv : Nat) (fsv : List Value) (hLv : vv ∈ L) (hFv : F vv = .inr (1, fsv)) : zM l yJx4a65c_add_72be8 wsJx4a65c_add_72be8 5 111 1 15 G L F [.ref h0, .ref vv, .ref ea, .int (nI n)] (fun rv L1 F1 => ∃ (ea' N' : Nat) (f' : Nat → Option Nat), rv = none ∧ (L1 = L ∨ ∃ q, q ∉ L ∧ L1 = L ++ [q]) ∧ ea' ∈ L1 ∧ F1 ea' = .inl (G.2.2.1, N', .inr (.inr (.inr (.inr f')))) ∧ n + 1 ≤ N' ∧ (N' = 10 ∨ N' = 15) ∧ (∀ k, k < n → f' k = fe k) ∧ f' n = some vv ∧ F1 h0 = .inr (0, [.int mo, .ref ea', .int (nI (n + 1))]) ∧ (∀ b, b ∈ L → b ≠ h0 → b ≠ ea → F1 b = F b) ∧ (ea' = ea ∨ ea' ∉ L)) := by
  rcases hok with ⟨rfl, rfl⟩ | ⟨hLe, hFe, h1, h2⟩
  · exact c_Jx4a65c_add_72be8a l hlst G L F h0 mo hL0 hF0 vv fsv hLv hFv fe
  · rcases Nat.lt_or_ge n nn with h3 | h3
    · exact c_Jx4a65c_add_72be8b l hlst G L F h0 mo ea n hL0 hF0 nn fe hLe hFe h3 h2 vv fsv hLv hFv
    · obtain rfl : n = 10 := by omega
      obtain rfl : nn = 10 := by omega
      exact c_Jx4a65c_add_72be8c l hlst G L F h0 mo ea hL0 hF0 fe hLe hFe hel vv fsv hLv hFv

set_option maxRecDepth 100000 in
theorem hin_Jx4a65c_add_9ea2d_Jx4a65c : ∀ w ∈ u_ws RJx4a65c TJx4a65c 3, w ∈ wsJx4a65c_add_9ea2d := by decide +kernel
set_option maxHeartbeats 4000000 in
set_option maxRecDepth 100000 in
theorem c_Jx4a65c_add_9ea2d (l : Launch) (hlst : l.stackTraces = false) (G : zGt) (L : List Nat) (F : Nat → va_E) (h0 : Nat) (mo : Int32) (ea n : Nat) (hL0 : h0 ∈ L) (hF0 : F h0 = .inr (0, [.int mo, .ref ea, .int (nI n)])) (nn : Nat) (fe : Nat → Option Nat) (hn : n < 12) (hok : ((n = 0 ∧ ea = G.2.2.2.2.1) ∨ (ea ∈ L ∧ F ea = .inl (G.2.2.1, nn, .inr (.inr (.inr (.inr fe)))) ∧ n ≤ nn ∧ (nn = 10 ∨ nn = 15)))) (hel : (∀ i, i < n → ∀ y, fe i = some y → y ∈ L ∧ ∃ fs, F y = .inr (1, fs))) (vv : Nat) (fsv : List Value) (hLv : vv ∈ L) (hFv : F vv = .inr (1, fsv)) : zM l yJx4a65c_add_9ea2d wsJx4a65c_add_9ea2d 6 134 1 15 G L F [.ref h0, .ref vv] (fun rv L1 F1 => ∃ (ea' N' : Nat) (f' : Nat → Option Nat), rv = some (.int (nI 1)) ∧ (L1 = L ∨ ∃ q, q ∉ L ∧ L1 = L ++ [q]) ∧ ea' ∈ L1 ∧ F1 ea' = .inl (G.2.2.1, N', .inr (.inr (.inr (.inr f')))) ∧ n + 1 ≤ N' ∧ (N' = 10 ∨ N' = 15) ∧ (∀ k, k < n → f' k = fe k) ∧ f' n = some vv ∧ F1 h0 = .inr (0, [.int (mo + nI 1), .ref ea', .int (nI (n + 1))]) ∧ (∀ b, b ∈ L → b ≠ h0 → b ≠ ea → F1 b = F b) ∧ (ea' = ea ∨ ea' ∉ L)) := by
  refine z_of (cc := cJx4a65c_add_9ea2d) (nL := 2) (ret := (some .boolean)) (own := RJx4a65c) hlst (by decide +kernel) rfl rfl (Nat.le_of_ble_eq_true rfl) ?_
  intro p e s m below meth c A hnm C
  refine z_lvs (lv' := [(0, .ref h0), (1, .ref vv)]) rfl ?_
  refine z_aload_n C dJx4a65c_add_9ea2d_0 rfl 0 rfl ?_
  refine z_dup C dJx4a65c_add_9ea2d_1 rfl ?_
  refine z_get (ref := "java/util/ArrayList") (v := .int mo) C hin_Jx4a65c_add_9ea2d_Jx4a65c hL0 hF0 rfl 0 (by decide) (by decide +kernel) (fun x9 h9 => u_same (C.1.2.2.2.2 (.sameField "java/util/ArrayList" "java/util/AbstractList" "modCount" "I") (by decide +kernel)) x9 h9) rfl dJx4a65c_add_9ea2d_2 ?_
  refine z_iconst C (nI 1) dJx4a65c_add_9ea2d_5 (by decide) ?_
  refine z_iadd C ((mo + nI 1)) dJx4a65c_add_9ea2d_6 (rfl) ?_
  refine z_put (ref := "java/util/ArrayList") (v := .int ((mo + nI 1))) (fs' := [.int ((mo + nI 1)), .ref ea, .int (nI n)]) C hin_Jx4a65c_add_9ea2d_Jx4a65c tyJx4a65c tyJx4a65c_ok nmJx4a65c hL0 hF0 rfl 0 (by decide) (by decide +kernel) (fun x9 h9 => u_same (C.1.2.2.2.2 (.sameField "java/util/ArrayList" "java/util/AbstractList" "modCount" "I") (by decide +kernel)) x9 h9) rfl rfl rfl (Nat.le_of_ble_eq_true rfl) rfl dJx4a65c_add_9ea2d_7 (fun F1_ h2_ k3_ => ?_)
  have h4_ : F1_ vv = .inr (1, fsv) := (k3_ vv (zne hFv hF0 rfl)).trans hFv
  have kc5_ : ∀ b, b ≠ h0 → F1_ b = F b := fun b q0 => k3_ b q0
  refine z_aload_n C dJx4a65c_add_9ea2d_10 rfl 0 rfl ?_
  refine z_aload_n C dJx4a65c_add_9ea2d_11 rfl 1 rfl ?_
  refine z_aload_n C dJx4a65c_add_9ea2d_12 rfl 0 rfl ?_
  refine z_get (ref := "java/util/ArrayList") (v := .ref ea) C hin_Jx4a65c_add_9ea2d_Jx4a65c hL0 h2_ rfl 1 (by decide) (by decide +kernel) (fun _ h9 => h9) rfl dJx4a65c_add_9ea2d_13 ?_
  refine z_aload_n C dJx4a65c_add_9ea2d_16 rfl 0 rfl ?_
  refine z_get (ref := "java/util/ArrayList") (v := .int (nI n)) C hin_Jx4a65c_add_9ea2d_Jx4a65c hL0 h2_ rfl 2 (by decide) (by decide +kernel) (fun _ h9 => h9) rfl dJx4a65c_add_9ea2d_17 ?_
  have hok' : ((n = 0 ∧ ea = G.2.2.2.2.1) ∨ (ea ∈ L ∧ F1_ ea = .inl (G.2.2.1, nn, .inr (.inr (.inr (.inr fe)))) ∧ n ≤ nn ∧ (nn = 10 ∨ nn = 15))) := by
    rcases hok with h | ⟨g1, g2, g3⟩
    · exact Or.inl h
    · exact Or.inr ⟨g1, (kc5_ ea (zne g2 hF0 rfl)).trans g2, g3⟩
  have hel' : ∀ i, i < n → ∀ y, fe i = some y → y ∈ L ∧ ∃ fs, F1_ y = .inr (1, fs) := fun i hi y hy => by
    obtain ⟨g1, fs, g2⟩ := hel i hi y hy
    exact ⟨g1, fs, (kc5_ y (zne g2 hF0 rfl)).trans g2⟩
  refine z_callV (As := [.ref vv, .ref ea, .int (nI n)]) (st := []) (mc := 1) (ms := 15) C hL0 h2_ rfl (c_Jx4a65c_add_72be8 l hlst G L F1_ h0 ((mo + nI 1)) ea n hL0 h2_ nn fe hn hok' hel' vv fsv hLv h4_) (cwV 3 C.1.2.2.2.2 gJx4a65c_add_9ea2d_Jx4a65c_add_72be8 rfl rfl rfl (by decide +kernel) ⟨Nat.le_of_ble_eq_true rfl, Nat.le_of_ble_eq_true rfl⟩) rfl (Nat.le_of_ble_eq_true rfl) ⟨Nat.le_of_ble_eq_true rfl, Nat.le_of_ble_eq_true rfl⟩ dJx4a65c_add_9ea2d_20 (fun rv9 L9 F9 hp9 => ?_)
  obtain ⟨ea9, nn9, f9, e91, hl9, hm9, hf9, hz9, hc9, ho9, hv9, h09, k9, hx9⟩ := hp9
  rw [e91]
  refine z_stk (st' := []) rfl ?_
  refine z_iconst C (nI 1) dJx4a65c_add_9ea2d_23 (by decide) ?_
  refine z_iret0 C rfl rfl (by decide) (by decide) dJx4a65c_add_9ea2d_24 ?_
  exact ⟨ea9, nn9, f9, rfl, hl9, hm9, hf9, hz9, hc9, ho9, hv9, h09, fun b hb g1 g2 => (k9 b hb g1 g2).trans (kc5_ b g1), hx9⟩
