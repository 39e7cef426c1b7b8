set_option maxHeartbeats 4000000 in
set_option maxRecDepth 100000 in
theorem law_loop {p : Program} {e : Env} {s : State} {m : MethodId} {args : Array Value} {below : List Frame} {meth : Method} {c : Code} {G : zGt} {A : Nat → Prop} {Q : State → Prop} {b N : Nat} {xs : Nat → Int32} {a0 m0 c0 c1 c2 c3 c4 c5 c6 o0 : Nat} (l : Launch) (hlst : l.stackTraces = false) (hX : zLX p l s m args meth c b N xs G A)
    (hend : ∀ (L : List Nat) (F : Nat → va_E) (ce sl : Nat) (lv : List (Nat × Value)), ce ≤ 601024 → sl ≤ 7293034 → zW p l e room_1 s m args below meth c 7 G A Q ce sl L F 1202 lv []) :
    ∀ (T j i ce sl : Nat) (L : List Nat) (F : Nat → va_E) (n now sk : Nat) (fd g : Nat → FdT), j + T = 600 → i = 4 * j → 4 * j ≤ N + 3 → now ≤ 100 * j → ce ≤ 20 + 4 * j → sl ≤ 200 + 34 * j → zLI G L F a0 m0 c0 c1 c2 c3 c4 c5 c6 o0 n now sk fd g → zW p l e room_1 s m args below meth c 7 G A Q ce sl L F 23 [(0, .ref b), (1, .ref a0), (2, .ref m0), (3, .ref o0), (4, .int (nI i))] [] := by
  intro T
  induction T with
  | zero =>
    intro j i ce sl L F n now sk fd g h1 hi h2 h3 h4 h5 hI
    have hN := hX.2.2.2.2
    exfalso
    omega
  | succ T ih =>
    intro j i ce sl L F n now sk fd g h1 hi h2 h3 h4 h5 hI
    obtain ⟨C, hXx, hbl, hbA, hN⟩ := id hX
    refine z_iload C dL_law_23 4 rfl ?_
    refine z_aload_n C dL_law_25 rfl 0 rfl ?_
    refine z_slen C hXx hbl hbA dL_law_26 ?_
    refine z_iconst C (nI 4) dL_law_27 (by decide) ?_
    refine z_isub C (nI N - nI 4) dL_law_28 rfl ?_
    refine z_icmp_gt C 1202 ((N : Int) - ((4 : Nat) : Int) < ((i : Nat) : Int)) (zi_lt (pk_sub_toInt (a := N) (b := 4) (by omega) (by omega)) (zi_N (n := i) (by omega))) dL_law_29 (by decide) (fun hg => ?_) (fun hg => ?_)
    · exact hend _ _ _ _ _ (by omega) (by omega)
    have hiN : i + 3 < N := by omega
    have K : zLK p l e s m args below meth c G A Q b i ce sl a0 m0 c0 c1 c2 c3 c4 c5 c6 o0 now := by
      intro L9 F9 n9 now9 sk9 fd9 g9 hnow hI9
      refine z_iinc (v := nI (i + 4)) (lv' := [(4, .int (nI (i + 4))), (0, .ref b), (1, .ref a0), (2, .ref m0), (3, .ref o0)]) C dL_law_1196 4 rfl (nI_add i 4) (by decide) rfl ?_
      refine z_goto C 23 dL_law_1199 (by decide) ?_
      refine z_sub (lv' := [(0, .ref b), (1, .ref a0), (2, .ref m0), (3, .ref o0), (4, .int (nI (i + 4)))]) [1, 2, 3, 4, 0] rfl ?_
      exact ih (j + 1) (i + 4) (ce + 4) (sl + 34) L9 F9 n9 now9 sk9 fd9 g9 (by omega) (by omega) (by omega) (by omega) (by omega) (by omega) hI9
    refine z_aload_n C dL_law_32 rfl 0 rfl ?_
    refine z_iload C dL_law_33 4 rfl ?_
    refine z_sld C hXx hbl hbA (by omega) (by omega) dL_law_35 ?_
    refine z_bipush C (nI 31) dL_law_36 (by decide) ?_
    obtain ⟨w, hw, ew⟩ := pk_andE (xs i) (m := nI 31) 5 (by decide)
    refine z_iand C (nI w) dL_law_38 ew ?_
    rcases (show w = 0 ∨ w = 1 ∨ w = 2 ∨ w = 3 ∨ w = 4 ∨ w = 5 ∨ w = 6 ∨ w = 7 ∨ w = 8 ∨ w = 9 ∨ w = 10 ∨ w = 11 ∨ w = 12 ∨ w = 13 ∨ w = 14 ∨ w = 15 ∨ w = 16 ∨ w = 17 ∨ w = 18 ∨ w = 19 ∨ w = 20 ∨ w = 21 ∨ 22 ≤ w by omega) with h9 | h9 | h9 | h9 | h9 | h9 | h9 | h9 | h9 | h9 | h9 | h9 | h9 | h9 | h9 | h9 | h9 | h9 | h9 | h9 | h9 | h9 | h9
    · subst h9
      refine z_tblIn C 0 101 140 (by decide) dL_law_39 (by decide) (by decide) rfl (by decide) ?_
      exact lc_feeder l hlst hX hiN hI (by omega) (by omega) (by omega) K
    · subst h9
      refine z_tblIn C 1 197 236 (by decide) dL_law_39 (by decide) (by decide) rfl (by decide) ?_
      exact lc_setLoad l hlst hX hiN hI (by omega) (by omega) (by omega) K
    · subst h9
      refine z_tblIn C 2 265 304 (by decide) dL_law_39 (by decide) (by decide) rfl (by decide) ?_
      exact lc_setCritical l hlst hX hiN hI (by omega) (by omega) (by omega) K
    · subst h9
      refine z_tblIn C 3 356 395 (by decide) dL_law_39 (by decide) (by decide) rfl (by decide) ?_
      exact lc_setSlack l hlst hX hiN hI (by omega) (by omega) (by omega) K
    · subst h9
      refine z_tblIn C 4 412 451 (by decide) dL_law_39 (by decide) (by decide) rfl (by decide) ?_
      exact lc_pass l hlst hX hiN hI (by omega) (by omega) (by omega) K
    · subst h9
      refine z_tblIn C 5 468 507 (by decide) dL_law_39 (by decide) (by decide) rfl (by decide) ?_
      exact lc_relieve l hlst hX hiN hI (by omega) (by omega) (by omega) K
    · subst h9
      refine z_tblIn C 6 524 563 (by decide) dL_law_39 (by decide) (by decide) rfl (by decide) ?_
      exact lc_rotate l hlst hX hiN hI (by omega) (by omega) (by omega) K
    · subst h9
      refine z_tblIn C 7 568 607 (by decide) dL_law_39 (by decide) (by decide) rfl (by decide) ?_
      exact lc_trip l hlst hX hiN hI (by omega) (by omega) (by omega) K
    · subst h9
      refine z_tblIn C 8 624 663 (by decide) dL_law_39 (by decide) (by decide) rfl (by decide) ?_
      exact lc_restore l hlst hX hiN hI (by omega) (by omega) (by omega) K
    · subst h9
      refine z_tblIn C 9 680 719 (by decide) dL_law_39 (by decide) (by decide) rfl (by decide) ?_
      exact lc_cut l hlst hX hiN hI (by omega) (by omega) (by omega) K
    · subst h9
      refine z_tblIn C 10 736 775 (by decide) dL_law_39 (by decide) (by decide) rfl (by decide) ?_
      exact lc_hour l hlst hX hiN hI (by omega) (by omega) (by omega) K
    · subst h9
      refine z_tblIn C 11 749 788 (by decide) dL_law_39 (by decide) (by decide) rfl (by decide) ?_
      exact lc_feeders l hlst hX hiN hI (by omega) (by omega) (by omega) K
    · subst h9
      refine z_tblIn C 12 762 801 (by decide) dL_law_39 (by decide) (by decide) rfl (by decide) ?_
      exact lc_isCut l hlst hX hiN hI (by omega) (by omega) (by omega) K
    · subst h9
      refine z_tblIn C 13 825 864 (by decide) dL_law_39 (by decide) (by decide) rfl (by decide) ?_
      exact lc_takes l hlst hX hiN hI (by omega) (by omega) (by omega) K
    · subst h9
      refine z_tblIn C 14 881 920 (by decide) dL_law_39 (by decide) (by decide) rfl (by decide) ?_
      exact lc_cold l hlst hX hiN hI (by omega) (by omega) (by omega) K
    · subst h9
      refine z_tblIn C 15 937 976 (by decide) dL_law_39 (by decide) (by decide) rfl (by decide) ?_
      exact lc_hours l hlst hX hiN hI (by omega) (by omega) (by omega) K
    · subst h9
      refine z_tblIn C 16 993 1032 (by decide) dL_law_39 (by decide) (by decide) rfl (by decide) ?_
      exact lc_load l hlst hX hiN hI (by omega) (by omega) (by omega) K
    · subst h9
      refine z_tblIn C 17 1006 1045 (by decide) dL_law_39 (by decide) (by decide) rfl (by decide) ?_
      exact lc_spread l hlst hX hiN hI (by omega) (by omega) (by omega) K
    · subst h9
      refine z_tblIn C 18 1019 1058 (by decide) dL_law_39 (by decide) (by decide) rfl (by decide) ?_
      exact lc_choice l hlst hX hiN hI (by omega) (by omega) (by omega) K
    · subst h9
      refine z_tblIn C 19 1075 1114 (by decide) dL_law_39 (by decide) (by decide) rfl (by decide) ?_
      exact lc_choiceByListing l hlst hX hiN hI (by omega) (by omega) (by omega) K
    · subst h9
      refine z_tblIn C 20 1131 1170 (by decide) dL_law_39 (by decide) (by decide) rfl (by decide) ?_
      exact lc_mostCut l hlst hX hiN hI (by omega) (by omega) (by omega) K
    · subst h9
      refine z_tblIn C 21 1144 1183 (by decide) dL_law_39 (by decide) (by decide) rfl (by decide) ?_
      exact lc_loadRestored l hlst hX hiN hI (by omega) (by omega) (by omega) K
    · have hwi : (nI w).toInt = (w : Int) := zi_N (n := w) (by omega)
      refine z_tblOut C 1196 dL_law_39 (Or.inr (by rw [hwi]; omega)) (by decide) ?_
      refine z_wide (ce + 4) (sl + 34) (by omega) (by omega) ?_
      exact K L F n now sk fd g (by omega) hI
