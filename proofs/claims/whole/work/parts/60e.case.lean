set_option maxHeartbeats 4000000 in
set_option maxRecDepth 100000 in
theorem lc_isCut {p : Program} {e : Env} {s : State} {m : MethodId} {args : Array Value} {below : List Frame} {meth : Method} {c : Code} {G : zGt} {A : Nat → Prop} {Q : State → Prop} {b N i ce sl : Nat} {xs : Nat → Int32} {L : List Nat} {F : Nat → va_E} {a0 m0 c0 c1 c2 c3 c4 c5 c6 o0 n now sk : Nat} {fd g : Nat → FdT} (l : Launch) (hlst : l.stackTraces = false) (hX : zLX p l s m args meth c b N xs G A) (hi : i + 3 < N) (hI : zLI G L F a0 m0 c0 c1 c2 c3 c4 c5 c6 o0 n now sk fd g) (hn9 : now ≤ 59900) (hce : ce + 4 ≤ 601024) (hsl : sl + 34 ≤ 7293034) (K : zLK p l e s m args below meth c G A Q b i ce sl a0 m0 c0 c1 c2 c3 c4 c5 c6 o0 now) : zW p l e room_1 s m args below meth c 7 G A Q ce sl L F 801 [(0, .ref b), (1, .ref a0), (2, .ref m0), (3, .ref o0), (4, .int (nI i))] [] := by
  obtain ⟨C, hX, hbl, hbA, hN⟩ := hX
  obtain ⟨hcl, ⟨thr, hmo⟩, hrl, hLo, ⟨fo, hFo⟩⟩ := hI
  have hn12 : n ≤ 12 := hmo.2.2.2.2.1
  refine z_aload_n C dL_law_801 rfl 1 rfl ?_
  refine z_aload_n C dL_law_802 rfl 0 rfl ?_
  refine z_iload C dL_law_803 4 rfl ?_
  refine z_iconst C (nI 1) dL_law_805 (by decide) ?_
  refine z_iadd C (nI (i + 1)) dL_law_806 (nI_add i 1) ?_
  refine z_sld C hX hbl hbA (by omega) (by omega) dL_law_807 ?_
  refine z_aload_n C dL_law_808 rfl 3 rfl ?_
  refine z_callSH (As := [.ref a0, .int (xs (i + 1)), .ref o0]) (st := []) (mc := 1) (ms := 6) C (c_L_isCut l hlst G L F (zMs m0 c0 c1 c2 c3 c4 c5 c6 o0) a0 n now sk fd o0 fo zMs_o hLo hFo hcl (xs (i + 1))) (vx_cwSW 3 C.1.2.2.2.2 gL_law_L_isCut rfl rfl rfl (by decide +kernel) ⟨Nat.le_of_ble_eq_true rfl, Nat.le_of_ble_eq_true rfl⟩) rfl (Nat.le_of_ble_eq_true rfl) ⟨Nat.le_trans (by omega) hce, Nat.le_trans (by omega) hsl⟩ dL_law_809 (fun E9 L9 F9 hx => hx.elim) (fun rv9 L1 F1 hp => ?_)
  obtain ⟨eL, hk1, fo1, hFo1, hd⟩ := hp
  obtain ⟨kk, hkk, erv, hd⟩ := wr2 hd
  rw [erv]
  have hL1 : ∀ b, b ∈ L → b ∈ L1 := fun b hb => eL ▸ hb
  have hmo1 := hmo.off hL1 ⟨fo, hFo⟩ hk1
  refine z_stk (st' := [.int (nI kk)]) rfl ?_
  refine z_istore (lv' := [(5, .int (nI kk)), (0, .ref b), (1, .ref a0), (2, .ref m0), (3, .ref o0), (4, .int (nI i))]) C dL_law_812 (by decide) rfl ?_
  refine z_aload_n C dL_law_814 rfl 3 rfl ?_
  refine z_aload_n C dL_law_815 rfl 1 rfl ?_
  refine z_iload C dL_law_816 5 rfl ?_
  refine z_iconst C (nI 1) dL_law_818 (by decide) ?_
  refine z_iadd C (nI (i + 1)) dL_law_819 (nI_add i 1) ?_
  refine z_sld C hX hbl hbA (by omega) (by omega) dL_law_820 ?_
  refine z_callV (As := [.int (xs (i + 1))]) (st := []) (mc := 0) (ms := 0) C hmo1.1.1 hmo1.2.1.1 rfl (c_X3_isCut l hlst G L1 F1 m0 c0 c1 c2 c3 c4 c5 c6 n now sk thr g hmo1 (xs (i + 1))) (cwV 1 C.1.2.2.2.2 gL_law_X3_isCut rfl rfl rfl (by decide +kernel) ⟨Nat.le_of_ble_eq_true rfl, Nat.le_of_ble_eq_true rfl⟩) rfl (Nat.le_of_ble_eq_true rfl) ⟨Nat.le_trans (by omega) hce, Nat.le_trans (by omega) hsl⟩ dL_law_821 (fun rv9 L2 F2 hp2 => ?_)
  obtain ⟨r, er, eL2, hk2, hd2⟩ := hp2
  rw [er, eL2]
  have hag : zAg G L1 F2 a0 m0 c0 c1 c2 c3 c4 c5 c6 o0 kk fo1 r now := by
    have hkM := mKeep (o0 := o0) hk2
    rcases hd with ⟨ek, k, hk, hx, hv, hc⟩ | ⟨ek, hx, hc⟩
    · rcases hd2 with ⟨k', hx', hk', hr, hm⟩ | ⟨hx', hm⟩
      · subst ek
        have ekk : k = k' := nIe (by omega) (by omega) (hx.symm.trans hx')
        subst ekk
        exact ⟨n, now, sk, fd, g, hc.offM hkM, hm, hrl, fun _ => hv.trans (by rw [hr]; exact congrArg (fun z => (nI z).toInt64) ((hrl k hk).2.2.2.1)), (by omega)⟩
      · exact absurd (zIx_in hn12 hk hx) hx'
    · rcases hd2 with ⟨k', hx', hk', hr, hm⟩ | ⟨hx', hm⟩
      · exact absurd (zIx_in hn12 hk' hx') hx
      · subst ek
        exact ⟨n, now, sk, fd, g, hc.offM hkM, hm, hrl, fun q => absurd q (by decide), (by omega)⟩
  have hbo : kk = 0 → r = nI 0 ∨ r = nI 1 := by
    intro q
    rcases hd2 with ⟨k', hx', hk', hr, hm⟩ | ⟨hx', hm⟩
    · have h9 := (hmo1.2.2.2.1.1 k' hk').2.2.2.2.1
      rw [hr]
      rcases (show fOf (g k') = 0 ∨ fOf (g k') = 1 by omega) with h8 | h8 <;> rw [h8]
      · exact Or.inl rfl
      · exact Or.inr rfl
    · rcases hd with ⟨ek, k, hk, hx, hv, hc⟩ | ⟨ek, hx, hc⟩
      · exact absurd (zIx_in hn12 hk hx) hx'
      · omega
  have hFo2 := (oKeep hmo1 ⟨fo1, hFo1⟩ hk2).trans hFo1
  have hLo1 := hL1 _ hLo
  obtain ⟨n9, now9, sk9, fd9, g9, hcl9, hmo9, hrl9, hval, hnow9⟩ := hag
  refine z_stk (st' := [.int r]) rfl ?_
  refine z_istore (lv' := [(6, .int r), (5, .int (nI kk)), (0, .ref b), (1, .ref a0), (2, .ref m0), (3, .ref o0), (4, .int (nI i))]) C dL_law_824 (by decide) rfl ?_
  refine z_aload_n C dL_law_826 rfl 4 rfl ?_
  refine z_callV (As := []) (st := []) (mc := 0) (ms := 0) C hmo9.1.1 hmo9.2.1.1 rfl (c_X3_thrown l hlst G L1 F2 m0 c0 c1 c2 c3 c4 c5 c6 n9 now9 sk9 kk g9 hmo9) (cwV 0 C.1.2.2.2.2 gL_law_X3_thrown rfl rfl rfl (by decide +kernel) ⟨Nat.le_of_ble_eq_true rfl, Nat.le_of_ble_eq_true rfl⟩) rfl (Nat.le_of_ble_eq_true rfl) ⟨Nat.le_trans (by omega) hce, Nat.le_trans (by omega) hsl⟩ dL_law_827 (z_p ?_)
  refine z_stk (st' := [.int (nI kk)]) rfl ?_
  refine z_iload C dL_law_830 1 rfl ?_
  refine z_icmp_eq C 837 True ⟨fun _ => trivial, fun _ => rfl⟩ dL_law_832 (by decide) (fun _ => ?_) (fun h9 => absurd trivial h9)
  refine z_iload C dL_law_837 1 rfl ?_
  refine z_if_ne C 861 (kk = 0) (nz_iff hkk) dL_law_839 (by decide) (fun h0 => ?_) (fun h0 => ?_)
  · -- thrown
    refine z_goto C 1196 dL_law_861 (by decide) ?_
    refine z_sub (lv' := [(0, .ref b), (1, .ref a0), (2, .ref m0), (3, .ref o0), (4, .int (nI i))]) [2, 3, 4, 5, 6] rfl ?_
    refine z_wide (ce + 4) (sl + 34) (by omega) (by omega) ?_
    exact K L1 F2 n9 now9 sk9 fd9 g9 hnow9 ⟨hcl9, ⟨_, hmo9⟩, hrl9, hLo1, ⟨fo1, hFo2⟩⟩
  · -- answered
    refine z_aload_n C dL_law_842 rfl 5 rfl ?_
    refine z_iconst C (nI 0) dL_law_843 (by decide) ?_
    refine z_lald C hLo1 hFo2 (by omega) (by omega) dL_law_844 (fo1 0) rfl ?_
    rcases hbo h0 with er9 | er9
    · -- 0
      subst er9
      refine z_iload C dL_law_845 0 rfl ?_
      refine z_if_eq C 854 True ⟨fun _ => trivial, fun _ => by decide⟩ dL_law_847 (by decide) (fun _ => ?_) (fun h9 => absurd trivial h9)
      refine z_lconst C (0 : Int64) dL_law_854 (by decide) ?_
      refine z_lcmp C 0 dL_law_855 (by rw [hval h0, show (nI 0).toInt64 = (0 : Int64) by decide]; exact lg_cmp_self _) ?_
      refine z_if_eq C 861 True ⟨fun _ => trivial, fun _ => rfl⟩ dL_law_856 (by decide) (fun _ => ?_) (fun h9 => absurd trivial h9)
      refine z_goto C 1196 dL_law_861 (by decide) ?_
      refine z_sub (lv' := [(0, .ref b), (1, .ref a0), (2, .ref m0), (3, .ref o0), (4, .int (nI i))]) [2, 3, 4, 5, 6] rfl ?_
      refine z_wide (ce + 4) (sl + 34) (by omega) (by omega) ?_
      exact K L1 F2 n9 now9 sk9 fd9 g9 hnow9 ⟨hcl9, ⟨_, hmo9⟩, hrl9, hLo1, ⟨fo1, hFo2⟩⟩
    · -- 1
      subst er9
      refine z_iload C dL_law_845 0 rfl ?_
      refine z_if_eq C 854 False ⟨fun h9 => absurd h9 (by decide), fun h9 => h9.elim⟩ dL_law_847 (by decide) (fun h9 => h9.elim) (fun _ => ?_)
      refine z_lconst C (1 : Int64) dL_law_850 (by decide) ?_
      refine z_goto C 855 dL_law_851 (by decide) ?_
      refine z_lcmp C 0 dL_law_855 (by rw [hval h0, show (nI 1).toInt64 = (1 : Int64) by decide]; exact lg_cmp_self _) ?_
      refine z_if_eq C 861 True ⟨fun _ => trivial, fun _ => rfl⟩ dL_law_856 (by decide) (fun _ => ?_) (fun h9 => absurd trivial h9)
      refine z_goto C 1196 dL_law_861 (by decide) ?_
      refine z_sub (lv' := [(0, .ref b), (1, .ref a0), (2, .ref m0), (3, .ref o0), (4, .int (nI i))]) [2, 3, 4, 5, 6] rfl ?_
      refine z_wide (ce + 4) (sl + 34) (by omega) (by omega) ?_
      exact K L1 F2 n9 now9 sk9 fd9 g9 hnow9 ⟨hcl9, ⟨_, hmo9⟩, hrl9, hLo1, ⟨fo1, hFo2⟩⟩

set_option maxHeartbeats 4000000 in
set_option maxRecDepth 100000 in
theorem lc_takes {p : Program} {e : Env} {s : State} {m : MethodId} {args : Array Value} {below : List Frame} {meth : Method} {c : Code} {G : zGt} {A : Nat → Prop} {Q : State → Prop} {b N i ce sl : Nat} {xs : Nat → Int32} {L : List Nat} {F : Nat → va_E} {a0 m0 c0 c1 c2 c3 c4 c5 c6 o0 n now sk : Nat} {fd g : Nat → FdT} (l : Launch) (hlst : l.stackTraces = false) (hX : zLX p l s m args meth c b N xs G A) (hi : i + 3 < N) (hI : zLI G L F a0 m0 c0 c1 c2 c3 c4 c5 c6 o0 n now sk fd g) (hn9 : now ≤ 59900) (hce : ce + 4 ≤ 601024) (hsl : sl + 34 ≤ 7293034) (K : zLK p l e s m args below meth c G A Q b i ce sl a0 m0 c0 c1 c2 c3 c4 c5 c6 o0 now) : zW p l e room_1 s m args below meth c 7 G A Q ce sl L F 864 [(0, .ref b), (1, .ref a0), (2, .ref m0), (3, .ref o0), (4, .int (nI i))] [] := by
  obtain ⟨C, hX, hbl, hbA, hN⟩ := hX
  obtain ⟨hcl, ⟨thr, hmo⟩, hrl, hLo, ⟨fo, hFo⟩⟩ := hI
  have hn12 : n ≤ 12 := hmo.2.2.2.2.1
  refine z_aload_n C dL_law_864 rfl 1 rfl ?_
  refine z_aload_n C dL_law_865 rfl 0 rfl ?_
  refine z_iload C dL_law_866 4 rfl ?_
  refine z_iconst C (nI 1) dL_law_868 (by decide) ?_
  refine z_iadd C (nI (i + 1)) dL_law_869 (nI_add i 1) ?_
  refine z_sld C hX hbl hbA (by omega) (by omega) dL_law_870 ?_
  refine z_aload_n C dL_law_871 rfl 3 rfl ?_
  refine z_callSH (As := [.ref a0, .int (xs (i + 1)), .ref o0]) (st := []) (mc := 1) (ms := 6) C (c_L_takes l hlst G L F (zMs m0 c0 c1 c2 c3 c4 c5 c6 o0) a0 n now sk fd o0 fo zMs_o hLo hFo hcl (xs (i + 1))) (vx_cwSW 3 C.1.2.2.2.2 gL_law_L_takes rfl rfl rfl (by decide +kernel) ⟨Nat.le_of_ble_eq_true rfl, Nat.le_of_ble_eq_true rfl⟩) rfl (Nat.le_of_ble_eq_true rfl) ⟨Nat.le_trans (by omega) hce, Nat.le_trans (by omega) hsl⟩ dL_law_872 (fun E9 L9 F9 hx => hx.elim) (fun rv9 L1 F1 hp => ?_)
  obtain ⟨eL, hk1, fo1, hFo1, hd⟩ := hp
  obtain ⟨kk, hkk, erv, hd⟩ := wr2 hd
  rw [erv]
  have hL1 : ∀ b, b ∈ L → b ∈ L1 := fun b hb => eL ▸ hb
  have hmo1 := hmo.off hL1 ⟨fo, hFo⟩ hk1
  refine z_stk (st' := [.int (nI kk)]) rfl ?_
  refine z_istore (lv' := [(5, .int (nI kk)), (0, .ref b), (1, .ref a0), (2, .ref m0), (3, .ref o0), (4, .int (nI i))]) C dL_law_875 (by decide) rfl ?_
  refine z_aload_n C dL_law_877 rfl 3 rfl ?_
  refine z_aload_n C dL_law_878 rfl 1 rfl ?_
  refine z_iload C dL_law_879 5 rfl ?_
  refine z_iconst C (nI 1) dL_law_881 (by decide) ?_
  refine z_iadd C (nI (i + 1)) dL_law_882 (nI_add i 1) ?_
  refine z_sld C hX hbl hbA (by omega) (by omega) dL_law_883 ?_
  refine z_callV (As := [.int (xs (i + 1))]) (st := []) (mc := 0) (ms := 0) C hmo1.1.1 hmo1.2.1.1 rfl (c_X3_takes l hlst G L1 F1 m0 c0 c1 c2 c3 c4 c5 c6 n now sk thr g hmo1 (xs (i + 1))) (cwV 1 C.1.2.2.2.2 gL_law_X3_takes rfl rfl rfl (by decide +kernel) ⟨Nat.le_of_ble_eq_true rfl, Nat.le_of_ble_eq_true rfl⟩) rfl (Nat.le_of_ble_eq_true rfl) ⟨Nat.le_trans (by omega) hce, Nat.le_trans (by omega) hsl⟩ dL_law_884 (fun rv9 L2 F2 hp2 => ?_)
  obtain ⟨r, er, eL2, hk2, hd2⟩ := hp2
  rw [er, eL2]
  have hag : zAg G L1 F2 a0 m0 c0 c1 c2 c3 c4 c5 c6 o0 kk fo1 r now := by
    have hkM := mKeep (o0 := o0) hk2
    rcases hd with ⟨ek, k, hk, hx, hv, hc⟩ | ⟨ek, hx, hc⟩
    · rcases hd2 with ⟨k', hx', hk', hr, hm⟩ | ⟨hx', hm⟩
      · subst ek
        have ekk : k = k' := nIe (by omega) (by omega) (hx.symm.trans hx')
        subst ekk
        exact ⟨n, now, sk, fd, g, hc.offM hkM, hm, hrl, fun _ => hv.trans (by rw [hr]; exact congrArg (fun z => (nI z).toInt64) ((hrl k hk).tk)), (by omega)⟩
      · exact absurd (zIx_in hn12 hk hx) hx'
    · rcases hd2 with ⟨k', hx', hk', hr, hm⟩ | ⟨hx', hm⟩
      · exact absurd (zIx_in hn12 hk' hx') hx
      · subst ek
        exact ⟨n, now, sk, fd, g, hc.offM hkM, hm, hrl, fun q => absurd q (by decide), (by omega)⟩
  have hFo2 := (oKeep hmo1 ⟨fo1, hFo1⟩ hk2).trans hFo1
  have hLo1 := hL1 _ hLo
  obtain ⟨n9, now9, sk9, fd9, g9, hcl9, hmo9, hrl9, hval, hnow9⟩ := hag
  refine z_stk (st' := [.int r]) rfl ?_
  refine z_istore (lv' := [(6, .int r), (5, .int (nI kk)), (0, .ref b), (1, .ref a0), (2, .ref m0), (3, .ref o0), (4, .int (nI i))]) C dL_law_887 (by decide) rfl ?_
  refine z_aload_n C dL_law_889 rfl 4 rfl ?_
  refine z_callV (As := []) (st := []) (mc := 0) (ms := 0) C hmo9.1.1 hmo9.2.1.1 rfl (c_X3_thrown l hlst G L1 F2 m0 c0 c1 c2 c3 c4 c5 c6 n9 now9 sk9 kk g9 hmo9) (cwV 0 C.1.2.2.2.2 gL_law_X3_thrown rfl rfl rfl (by decide +kernel) ⟨Nat.le_of_ble_eq_true rfl, Nat.le_of_ble_eq_true rfl⟩) rfl (Nat.le_of_ble_eq_true rfl) ⟨Nat.le_trans (by omega) hce, Nat.le_trans (by omega) hsl⟩ dL_law_890 (z_p ?_)
  refine z_stk (st' := [.int (nI kk)]) rfl ?_
  refine z_iload C dL_law_893 1 rfl ?_
  refine z_icmp_eq C 900 True ⟨fun _ => trivial, fun _ => rfl⟩ dL_law_895 (by decide) (fun _ => ?_) (fun h9 => absurd trivial h9)
  refine z_iload C dL_law_900 1 rfl ?_
  refine z_if_ne C 917 (kk = 0) (nz_iff hkk) dL_law_902 (by decide) (fun h0 => ?_) (fun h0 => ?_)
  · -- thrown
    refine z_goto C 1196 dL_law_917 (by decide) ?_
    refine z_sub (lv' := [(0, .ref b), (1, .ref a0), (2, .ref m0), (3, .ref o0), (4, .int (nI i))]) [2, 3, 4, 5, 6] rfl ?_
    refine z_wide (ce + 4) (sl + 34) (by omega) (by omega) ?_
    exact K L1 F2 n9 now9 sk9 fd9 g9 hnow9 ⟨hcl9, ⟨_, hmo9⟩, hrl9, hLo1, ⟨fo1, hFo2⟩⟩
  · -- answered
    refine z_aload_n C dL_law_905 rfl 5 rfl ?_
    refine z_iconst C (nI 0) dL_law_906 (by decide) ?_
    refine z_lald C hLo1 hFo2 (by omega) (by omega) dL_law_907 (fo1 0) rfl ?_
    refine z_iload C dL_law_908 0 rfl ?_
    refine z_i2l C (r.toInt64) dL_law_910 rfl ?_
    refine z_lcmp C 0 dL_law_911 (by rw [hval h0]; exact lg_cmp_self _) ?_
    refine z_if_eq C 917 True ⟨fun _ => trivial, fun _ => rfl⟩ dL_law_912 (by decide) (fun _ => ?_) (fun h9 => absurd trivial h9)
    refine z_goto C 1196 dL_law_917 (by decide) ?_
    refine z_sub (lv' := [(0, .ref b), (1, .ref a0), (2, .ref m0), (3, .ref o0), (4, .int (nI i))]) [2, 3, 4, 5, 6] rfl ?_
    refine z_wide (ce + 4) (sl + 34) (by omega) (by omega) ?_
    exact K L1 F2 n9 now9 sk9 fd9 g9 hnow9 ⟨hcl9, ⟨_, hmo9⟩, hrl9, hLo1, ⟨fo1, hFo2⟩⟩

set_option maxHeartbeats 4000000 in
set_option maxRecDepth 100000 in
theorem lc_cold {p : Program} {e : Env} {s : State} {m : MethodId} {args : Array Value} {below : List Frame} {meth : Method} {c : Code} {G : zGt} {A : Nat → Prop} {Q : State → Prop} {b N i ce sl : Nat} {xs : Nat → Int32} {L : List Nat} {F : Nat → va_E} {a0 m0 c0 c1 c2 c3 c4 c5 c6 o0 n now sk : Nat} {fd g : Nat → FdT} (l : Launch) (hlst : l.stackTraces = false) (hX : zLX p l s m args meth c b N xs G A) (hi : i + 3 < N) (hI : zLI G L F a0 m0 c0 c1 c2 c3 c4 c5 c6 o0 n now sk fd g) (hn9 : now ≤ 59900) (hce : ce + 4 ≤ 601024) (hsl : sl + 34 ≤ 7293034) (K : zLK p l e s m args below meth c G A Q b i ce sl a0 m0 c0 c1 c2 c3 c4 c5 c6 o0 now) : zW p l e room_1 s m args below meth c 7 G A Q ce sl L F 920 [(0, .ref b), (1, .ref a0), (2, .ref m0), (3, .ref o0), (4, .int (nI i))] [] := by
  obtain ⟨C, hX, hbl, hbA, hN⟩ := hX
  obtain ⟨hcl, ⟨thr, hmo⟩, hrl, hLo, ⟨fo, hFo⟩⟩ := hI
  have hn12 : n ≤ 12 := hmo.2.2.2.2.1
  refine z_aload_n C dL_law_920 rfl 1 rfl ?_
  refine z_aload_n C dL_law_921 rfl 0 rfl ?_
  refine z_iload C dL_law_922 4 rfl ?_
  refine z_iconst C (nI 1) dL_law_924 (by decide) ?_
  refine z_iadd C (nI (i + 1)) dL_law_925 (nI_add i 1) ?_
  refine z_sld C hX hbl hbA (by omega) (by omega) dL_law_926 ?_
  refine z_aload_n C dL_law_927 rfl 3 rfl ?_
  refine z_callSH (As := [.ref a0, .int (xs (i + 1)), .ref o0]) (st := []) (mc := 1) (ms := 6) C (c_L_cold l hlst G L F (zMs m0 c0 c1 c2 c3 c4 c5 c6 o0) a0 n now sk fd o0 fo zMs_o hLo hFo hcl (xs (i + 1))) (vx_cwSW 3 C.1.2.2.2.2 gL_law_L_cold rfl rfl rfl (by decide +kernel) ⟨Nat.le_of_ble_eq_true rfl, Nat.le_of_ble_eq_true rfl⟩) rfl (Nat.le_of_ble_eq_true rfl) ⟨Nat.le_trans (by omega) hce, Nat.le_trans (by omega) hsl⟩ dL_law_928 (fun E9 L9 F9 hx => hx.elim) (fun rv9 L1 F1 hp => ?_)
  obtain ⟨eL, hk1, fo1, hFo1, hd⟩ := hp
  obtain ⟨kk, hkk, erv, hd⟩ := wr2 hd
  rw [erv]
  have hL1 : ∀ b, b ∈ L → b ∈ L1 := fun b hb => eL ▸ hb
  have hmo1 := hmo.off hL1 ⟨fo, hFo⟩ hk1
  refine z_stk (st' := [.int (nI kk)]) rfl ?_
  refine z_istore (lv' := [(5, .int (nI kk)), (0, .ref b), (1, .ref a0), (2, .ref m0), (3, .ref o0), (4, .int (nI i))]) C dL_law_931 (by decide) rfl ?_
  refine z_aload_n C dL_law_933 rfl 3 rfl ?_
  refine z_aload_n C dL_law_934 rfl 1 rfl ?_
  refine z_iload C dL_law_935 5 rfl ?_
  refine z_iconst C (nI 1) dL_law_937 (by decide) ?_
  refine z_iadd C (nI (i + 1)) dL_law_938 (nI_add i 1) ?_
  refine z_sld C hX hbl hbA (by omega) (by omega) dL_law_939 ?_
  refine z_callV (As := [.int (xs (i + 1))]) (st := []) (mc := 0) (ms := 0) C hmo1.1.1 hmo1.2.1.1 rfl (c_X3_cold l hlst G L1 F1 m0 c0 c1 c2 c3 c4 c5 c6 n now sk thr g hmo1 (xs (i + 1))) (cwV 1 C.1.2.2.2.2 gL_law_X3_cold rfl rfl rfl (by decide +kernel) ⟨Nat.le_of_ble_eq_true rfl, Nat.le_of_ble_eq_true rfl⟩) rfl (Nat.le_of_ble_eq_true rfl) ⟨Nat.le_trans (by omega) hce, Nat.le_trans (by omega) hsl⟩ dL_law_940 (fun rv9 L2 F2 hp2 => ?_)
  obtain ⟨r, er, eL2, hk2, hd2⟩ := hp2
  rw [er, eL2]
  have hag : zAg G L1 F2 a0 m0 c0 c1 c2 c3 c4 c5 c6 o0 kk fo1 r now := by
    have hkM := mKeep (o0 := o0) hk2
    rcases hd with ⟨ek, k, hk, hx, hv, hc⟩ | ⟨ek, hx, hc⟩
    · rcases hd2 with ⟨k', hx', hk', hr, hm⟩ | ⟨hx', hm⟩
      · subst ek
        have ekk : k = k' := nIe (by omega) (by omega) (hx.symm.trans hx')
        subst ekk
        exact ⟨n, now, sk, fd, g, hc.offM hkM, hm, hrl, fun _ => hv.trans (by rw [hr]; exact congrArg (fun z => (nI z).toInt64) ((hrl k hk).2.2.2.2.2.1)), (by omega)⟩
      · exact absurd (zIx_in hn12 hk hx) hx'
    · rcases hd2 with ⟨k', hx', hk', hr, hm⟩ | ⟨hx', hm⟩
      · exact absurd (zIx_in hn12 hk' hx') hx
      · subst ek
        exact ⟨n, now, sk, fd, g, hc.offM hkM, hm, hrl, fun q => absurd q (by decide), (by omega)⟩
  have hFo2 := (oKeep hmo1 ⟨fo1, hFo1⟩ hk2).trans hFo1
  have hLo1 := hL1 _ hLo
  obtain ⟨n9, now9, sk9, fd9, g9, hcl9, hmo9, hrl9, hval, hnow9⟩ := hag
  refine z_stk (st' := [.int r]) rfl ?_
  refine z_istore (lv' := [(6, .int r), (5, .int (nI kk)), (0, .ref b), (1, .ref a0), (2, .ref m0), (3, .ref o0), (4, .int (nI i))]) C dL_law_943 (by decide) rfl ?_
  refine z_aload_n C dL_law_945 rfl 4 rfl ?_
  refine z_callV (As := []) (st := []) (mc := 0) (ms := 0) C hmo9.1.1 hmo9.2.1.1 rfl (c_X3_thrown l hlst G L1 F2 m0 c0 c1 c2 c3 c4 c5 c6 n9 now9 sk9 kk g9 hmo9) (cwV 0 C.1.2.2.2.2 gL_law_X3_thrown rfl rfl rfl (by decide +kernel) ⟨Nat.le_of_ble_eq_true rfl, Nat.le_of_ble_eq_true rfl⟩) rfl (Nat.le_of_ble_eq_true rfl) ⟨Nat.le_trans (by omega) hce, Nat.le_trans (by omega) hsl⟩ dL_law_946 (z_p ?_)
  refine z_stk (st' := [.int (nI kk)]) rfl ?_
  refine z_iload C dL_law_949 1 rfl ?_
  refine z_icmp_eq C 956 True ⟨fun _ => trivial, fun _ => rfl⟩ dL_law_951 (by decide) (fun _ => ?_) (fun h9 => absurd trivial h9)
  refine z_iload C dL_law_956 1 rfl ?_
  refine z_if_ne C 973 (kk = 0) (nz_iff hkk) dL_law_958 (by decide) (fun h0 => ?_) (fun h0 => ?_)
  · -- thrown
    refine z_goto C 1196 dL_law_973 (by decide) ?_
    refine z_sub (lv' := [(0, .ref b), (1, .ref a0), (2, .ref m0), (3, .ref o0), (4, .int (nI i))]) [2, 3, 4, 5, 6] rfl ?_
    refine z_wide (ce + 4) (sl + 34) (by omega) (by omega) ?_
    exact K L1 F2 n9 now9 sk9 fd9 g9 hnow9 ⟨hcl9, ⟨_, hmo9⟩, hrl9, hLo1, ⟨fo1, hFo2⟩⟩
  · -- answered
    refine z_aload_n C dL_law_961 rfl 5 rfl ?_
    refine z_iconst C (nI 0) dL_law_962 (by decide) ?_
    refine z_lald C hLo1 hFo2 (by omega) (by omega) dL_law_963 (fo1 0) rfl ?_
    refine z_iload C dL_law_964 0 rfl ?_
    refine z_i2l C (r.toInt64) dL_law_966 rfl ?_
    refine z_lcmp C 0 dL_law_967 (by rw [hval h0]; exact lg_cmp_self _) ?_
    refine z_if_eq C 973 True ⟨fun _ => trivial, fun _ => rfl⟩ dL_law_968 (by decide) (fun _ => ?_) (fun h9 => absurd trivial h9)
    refine z_goto C 1196 dL_law_973 (by decide) ?_
    refine z_sub (lv' := [(0, .ref b), (1, .ref a0), (2, .ref m0), (3, .ref o0), (4, .int (nI i))]) [2, 3, 4, 5, 6] rfl ?_
    refine z_wide (ce + 4) (sl + 34) (by omega) (by omega) ?_
    exact K L1 F2 n9 now9 sk9 fd9 g9 hnow9 ⟨hcl9, ⟨_, hmo9⟩, hrl9, hLo1, ⟨fo1, hFo2⟩⟩

set_option maxHeartbeats 4000000 in
set_option maxRecDepth 100000 in
theorem lc_hours {p : Program} {e : Env} {s : State} {m : MethodId} {args : Array Value} {below : List Frame} {meth : Method} {c : Code} {G : zGt} {A : Nat → Prop} {Q : State → Prop} {b N i ce sl : Nat} {xs : Nat → Int32} {L : List Nat} {F : Nat → va_E} {a0 m0 c0 c1 c2 c3 c4 c5 c6 o0 n now sk : Nat} {fd g : Nat → FdT} (l : Launch) (hlst : l.stackTraces = false) (hX : zLX p l s m args meth c b N xs G A) (hi : i + 3 < N) (hI : zLI G L F a0 m0 c0 c1 c2 c3 c4 c5 c6 o0 n now sk fd g) (hn9 : now ≤ 59900) (hce : ce + 4 ≤ 601024) (hsl : sl + 34 ≤ 7293034) (K : zLK p l e s m args below meth c G A Q b i ce sl a0 m0 c0 c1 c2 c3 c4 c5 c6 o0 now) : zW p l e room_1 s m args below meth c 7 G A Q ce sl L F 976 [(0, .ref b), (1, .ref a0), (2, .ref m0), (3, .ref o0), (4, .int (nI i))] [] := by
  obtain ⟨C, hX, hbl, hbA, hN⟩ := hX
  obtain ⟨hcl, ⟨thr, hmo⟩, hrl, hLo, ⟨fo, hFo⟩⟩ := hI
  have hn12 : n ≤ 12 := hmo.2.2.2.2.1
  refine z_aload_n C dL_law_976 rfl 1 rfl ?_
  refine z_aload_n C dL_law_977 rfl 0 rfl ?_
  refine z_iload C dL_law_978 4 rfl ?_
  refine z_iconst C (nI 1) dL_law_980 (by decide) ?_
  refine z_iadd C (nI (i + 1)) dL_law_981 (nI_add i 1) ?_
  refine z_sld C hX hbl hbA (by omega) (by omega) dL_law_982 ?_
  refine z_aload_n C dL_law_983 rfl 3 rfl ?_
  refine z_callSH (As := [.ref a0, .int (xs (i + 1)), .ref o0]) (st := []) (mc := 1) (ms := 6) C (c_L_hours l hlst G L F (zMs m0 c0 c1 c2 c3 c4 c5 c6 o0) a0 n now sk fd o0 fo zMs_o hLo hFo hcl (xs (i + 1))) (vx_cwSW 3 C.1.2.2.2.2 gL_law_L_hours rfl rfl rfl (by decide +kernel) ⟨Nat.le_of_ble_eq_true rfl, Nat.le_of_ble_eq_true rfl⟩) rfl (Nat.le_of_ble_eq_true rfl) ⟨Nat.le_trans (by omega) hce, Nat.le_trans (by omega) hsl⟩ dL_law_984 (fun E9 L9 F9 hx => hx.elim) (fun rv9 L1 F1 hp => ?_)
  obtain ⟨eL, hk1, fo1, hFo1, hd⟩ := hp
  obtain ⟨kk, hkk, erv, hd⟩ := wr2 hd
  rw [erv]
  have hL1 : ∀ b, b ∈ L → b ∈ L1 := fun b hb => eL ▸ hb
  have hmo1 := hmo.off hL1 ⟨fo, hFo⟩ hk1
  refine z_stk (st' := [.int (nI kk)]) rfl ?_
  refine z_istore (lv' := [(5, .int (nI kk)), (0, .ref b), (1, .ref a0), (2, .ref m0), (3, .ref o0), (4, .int (nI i))]) C dL_law_987 (by decide) rfl ?_
  refine z_aload_n C dL_law_989 rfl 3 rfl ?_
  refine z_aload_n C dL_law_990 rfl 1 rfl ?_
  refine z_iload C dL_law_991 5 rfl ?_
  refine z_iconst C (nI 1) dL_law_993 (by decide) ?_
  refine z_iadd C (nI (i + 1)) dL_law_994 (nI_add i 1) ?_
  refine z_sld C hX hbl hbA (by omega) (by omega) dL_law_995 ?_
  refine z_callV (As := [.int (xs (i + 1))]) (st := []) (mc := 0) (ms := 0) C hmo1.1.1 hmo1.2.1.1 rfl (c_X3_hours l hlst G L1 F1 m0 c0 c1 c2 c3 c4 c5 c6 n now sk thr g hmo1 (xs (i + 1))) (cwV 1 C.1.2.2.2.2 gL_law_X3_hours rfl rfl rfl (by decide +kernel) ⟨Nat.le_of_ble_eq_true rfl, Nat.le_of_ble_eq_true rfl⟩) rfl (Nat.le_of_ble_eq_true rfl) ⟨Nat.le_trans (by omega) hce, Nat.le_trans (by omega) hsl⟩ dL_law_996 (fun rv9 L2 F2 hp2 => ?_)
  obtain ⟨r, er, eL2, hk2, hd2⟩ := hp2
  rw [er, eL2]
  have hag : zAg G L1 F2 a0 m0 c0 c1 c2 c3 c4 c5 c6 o0 kk fo1 r now := by
    have hkM := mKeep (o0 := o0) hk2
    rcases hd with ⟨ek, k, hk, hx, hv, hc⟩ | ⟨ek, hx, hc⟩
    · rcases hd2 with ⟨k', hx', hk', hr, hm⟩ | ⟨hx', hm⟩
      · subst ek
        have ekk : k = k' := nIe (by omega) (by omega) (hx.symm.trans hx')
        subst ekk
        exact ⟨n, now, sk, fd, g, hc.offM hkM, hm, hrl, fun _ => hv.trans (by rw [hr]; exact congrArg (fun z => (nI z).toInt64) ((hrl k hk).2.2.2.2.1)), (by omega)⟩
      · exact absurd (zIx_in hn12 hk hx) hx'
    · rcases hd2 with ⟨k', hx', hk', hr, hm⟩ | ⟨hx', hm⟩
      · exact absurd (zIx_in hn12 hk' hx') hx
      · subst ek
        exact ⟨n, now, sk, fd, g, hc.offM hkM, hm, hrl, fun q => absurd q (by decide), (by omega)⟩
  have hFo2 := (oKeep hmo1 ⟨fo1, hFo1⟩ hk2).trans hFo1
  have hLo1 := hL1 _ hLo
  obtain ⟨n9, now9, sk9, fd9, g9, hcl9, hmo9, hrl9, hval, hnow9⟩ := hag
  refine z_stk (st' := [.int r]) rfl ?_
  refine z_istore (lv' := [(6, .int r), (5, .int (nI kk)), (0, .ref b), (1, .ref a0), (2, .ref m0), (3, .ref o0), (4, .int (nI i))]) C dL_law_999 (by decide) rfl ?_
  refine z_aload_n C dL_law_1001 rfl 4 rfl ?_
  refine z_callV (As := []) (st := []) (mc := 0) (ms := 0) C hmo9.1.1 hmo9.2.1.1 rfl (c_X3_thrown l hlst G L1 F2 m0 c0 c1 c2 c3 c4 c5 c6 n9 now9 sk9 kk g9 hmo9) (cwV 0 C.1.2.2.2.2 gL_law_X3_thrown rfl rfl rfl (by decide +kernel) ⟨Nat.le_of_ble_eq_true rfl, Nat.le_of_ble_eq_true rfl⟩) rfl (Nat.le_of_ble_eq_true rfl) ⟨Nat.le_trans (by omega) hce, Nat.le_trans (by omega) hsl⟩ dL_law_1002 (z_p ?_)
  refine z_stk (st' := [.int (nI kk)]) rfl ?_
  refine z_iload C dL_law_1005 1 rfl ?_
  refine z_icmp_eq C 1012 True ⟨fun _ => trivial, fun _ => rfl⟩ dL_law_1007 (by decide) (fun _ => ?_) (fun h9 => absurd trivial h9)
  refine z_iload C dL_law_1012 1 rfl ?_
  refine z_if_ne C 1029 (kk = 0) (nz_iff hkk) dL_law_1014 (by decide) (fun h0 => ?_) (fun h0 => ?_)
  · -- thrown
    refine z_goto C 1196 dL_law_1029 (by decide) ?_
    refine z_sub (lv' := [(0, .ref b), (1, .ref a0), (2, .ref m0), (3, .ref o0), (4, .int (nI i))]) [2, 3, 4, 5, 6] rfl ?_
    refine z_wide (ce + 4) (sl + 34) (by omega) (by omega) ?_
    exact K L1 F2 n9 now9 sk9 fd9 g9 hnow9 ⟨hcl9, ⟨_, hmo9⟩, hrl9, hLo1, ⟨fo1, hFo2⟩⟩
  · -- answered
    refine z_aload_n C dL_law_1017 rfl 5 rfl ?_
    refine z_iconst C (nI 0) dL_law_1018 (by decide) ?_
    refine z_lald C hLo1 hFo2 (by omega) (by omega) dL_law_1019 (fo1 0) rfl ?_
    refine z_iload C dL_law_1020 0 rfl ?_
    refine z_i2l C (r.toInt64) dL_law_1022 rfl ?_
    refine z_lcmp C 0 dL_law_1023 (by rw [hval h0]; exact lg_cmp_self _) ?_
    refine z_if_eq C 1029 True ⟨fun _ => trivial, fun _ => rfl⟩ dL_law_1024 (by decide) (fun _ => ?_) (fun h9 => absurd trivial h9)
    refine z_goto C 1196 dL_law_1029 (by decide) ?_
    refine z_sub (lv' := [(0, .ref b), (1, .ref a0), (2, .ref m0), (3, .ref o0), (4, .int (nI i))]) [2, 3, 4, 5, 6] rfl ?_
    refine z_wide (ce + 4) (sl + 34) (by omega) (by omega) ?_
    exact K L1 F2 n9 now9 sk9 fd9 g9 hnow9 ⟨hcl9, ⟨_, hmo9⟩, hrl9, hLo1, ⟨fo1, hFo2⟩⟩
