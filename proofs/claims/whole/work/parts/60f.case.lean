set_option maxHeartbeats 4000000 in
set_option maxRecDepth 100000 in
theorem lc_choice {p : Program} {e : Env} {s : State} {m : MethodId} {args : Array Value} {below : List Frame} {meth : Method} {c : Code} {G : zGt} {A : Nat → Prop} {Q : State → Prop} {b N i ce sl : Nat} {xs : Nat → Int32} {L : List Nat} {F : Nat → va_E} {a0 m0 c0 c1 c2 c3 c4 c5 c6 o0 n now sk : Nat} {fd g : Nat → FdT} (l : Launch) (hlst : l.stackTraces = false) (hX : zLX p l s m args meth c b N xs G A) (hi : i + 3 < N) (hI : zLI G L F a0 m0 c0 c1 c2 c3 c4 c5 c6 o0 n now sk fd g) (hn9 : now ≤ 59900) (hce : ce + 4 ≤ 601024) (hsl : sl + 34 ≤ 7293034) (K : zLK p l e s m args below meth c G A Q b i ce sl a0 m0 c0 c1 c2 c3 c4 c5 c6 o0 now) : zW p l e room_1 s m args below meth c 7 G A Q ce sl L F 1058 [(0, .ref b), (1, .ref a0), (2, .ref m0), (3, .ref o0), (4, .int (nI i))] [] := by
  obtain ⟨C, hX, hbl, hbA, hN⟩ := hX
  obtain ⟨hcl, ⟨thr, hmo⟩, hrl, hLo, ⟨fo, hFo⟩⟩ := hI
  have hn12 : n ≤ 12 := hmo.2.2.2.2.1
  refine z_aload_n C dL_law_1058 rfl 1 rfl ?_
  refine z_aload_n C dL_law_1059 rfl 0 rfl ?_
  refine z_iload C dL_law_1060 4 rfl ?_
  refine z_iconst C (nI 1) dL_law_1062 (by decide) ?_
  refine z_iadd C (nI (i + 1)) dL_law_1063 (nI_add i 1) ?_
  refine z_sld C hX hbl hbA (by omega) (by omega) dL_law_1064 ?_
  refine z_aload_n C dL_law_1065 rfl 3 rfl ?_
  refine z_callSH (As := [.ref a0, .int (xs (i + 1)), .ref o0]) (st := []) (mc := 1) (ms := 6) C (c_L_choice l hlst G L F (zMs m0 c0 c1 c2 c3 c4 c5 c6 o0) a0 n now sk fd o0 fo zMs_o hLo hFo hcl (xs (i + 1))) (vx_cwSW 3 C.1.2.2.2.2 gL_law_L_choice rfl rfl rfl (by decide +kernel) ⟨Nat.le_of_ble_eq_true rfl, Nat.le_of_ble_eq_true rfl⟩) rfl (Nat.le_of_ble_eq_true rfl) ⟨Nat.le_trans (by omega) hce, Nat.le_trans (by omega) hsl⟩ dL_law_1066 (fun E9 L9 F9 hx => hx.elim) (fun rv9 L1 F1 hp => ?_)
  obtain ⟨eL, hk1, fo1, hFo1, hd⟩ := hp
  obtain ⟨kk, hkk, erv, hd⟩ := wr2 hd
  rw [erv]
  have hL1 : ∀ b, b ∈ L → b ∈ L1 := fun b hb => eL ▸ hb
  have hmo1 := hmo.off hL1 ⟨fo, hFo⟩ hk1
  refine z_stk (st' := [.int (nI kk)]) rfl ?_
  refine z_istore (lv' := [(5, .int (nI kk)), (0, .ref b), (1, .ref a0), (2, .ref m0), (3, .ref o0), (4, .int (nI i))]) C dL_law_1069 (by decide) rfl ?_
  refine z_aload_n C dL_law_1071 rfl 3 rfl ?_
  refine z_aload_n C dL_law_1072 rfl 1 rfl ?_
  refine z_iload C dL_law_1073 5 rfl ?_
  refine z_iconst C (nI 1) dL_law_1075 (by decide) ?_
  refine z_iadd C (nI (i + 1)) dL_law_1076 (nI_add i 1) ?_
  refine z_sld C hX hbl hbA (by omega) (by omega) dL_law_1077 ?_
  refine z_callV (As := [.int (xs (i + 1))]) (st := []) (mc := 0) (ms := 0) C hmo1.1.1 hmo1.2.1.1 rfl (c_X3_choice l hlst G L1 F1 m0 c0 c1 c2 c3 c4 c5 c6 n now sk thr g hmo1 (xs (i + 1))) (cwV 1 C.1.2.2.2.2 gL_law_X3_choice rfl rfl rfl (by decide +kernel) ⟨Nat.le_of_ble_eq_true rfl, Nat.le_of_ble_eq_true rfl⟩) rfl (Nat.le_of_ble_eq_true rfl) ⟨Nat.le_trans (by omega) hce, Nat.le_trans (by omega) hsl⟩ dL_law_1078 (fun rv9 L2 F2 hp2 => ?_)
  obtain ⟨r, er, eL2, hk2, hd2⟩ := hp2
  rw [er, eL2]
  have hag : zAg G L1 F2 a0 m0 c0 c1 c2 c3 c4 c5 c6 o0 kk fo1 r now := by
    have hkM := mKeep (o0 := o0) hk2
    rcases hd with ⟨ek, sf, b1, hj, h1, h2, hB, hv, hc⟩ | ⟨ek, hj, hc⟩
    · rcases hd2 with ⟨sf', b1', hj', h1', h2', hB', hr, hm⟩ | ⟨hj', hm⟩
      · subst ek
        have esf : sf = sf' := nIe (by omega) (by omega) (hj.symm.trans hj')
        subst esf
        have ebb : b1 = b1' := isB_one hn12 h1 (hrl.B hB) hB'
        subst ebb
        exact ⟨n, now, sk, fd, g, hc.offM hkM, hm, hrl, fun _ => hv.trans (by rw [hr]), (by omega)⟩
      · exact absurd (zIn_in (by decide) h1 h2 hj) hj'
    · rcases hd2 with ⟨sf', b1', hj', h1', h2', hB', hr, hm⟩ | ⟨hj', hm⟩
      · exact absurd (zIn_in (by decide) h1' h2' hj') hj
      · subst ek
        exact ⟨n, now, sk, fd, g, hc.offM hkM, hm, hrl, fun q => absurd q (by decide), (by omega)⟩
  have hFo2 := (oKeep hmo1 ⟨fo1, hFo1⟩ hk2).trans hFo1
  have hLo1 := hL1 _ hLo
  obtain ⟨n9, now9, sk9, fd9, g9, hcl9, hmo9, hrl9, hval, hnow9⟩ := hag
  refine z_stk (st' := [.int r]) rfl ?_
  refine z_istore (lv' := [(6, .int r), (5, .int (nI kk)), (0, .ref b), (1, .ref a0), (2, .ref m0), (3, .ref o0), (4, .int (nI i))]) C dL_law_1081 (by decide) rfl ?_
  refine z_aload_n C dL_law_1083 rfl 4 rfl ?_
  refine z_callV (As := []) (st := []) (mc := 0) (ms := 0) C hmo9.1.1 hmo9.2.1.1 rfl (c_X3_thrown l hlst G L1 F2 m0 c0 c1 c2 c3 c4 c5 c6 n9 now9 sk9 kk g9 hmo9) (cwV 0 C.1.2.2.2.2 gL_law_X3_thrown rfl rfl rfl (by decide +kernel) ⟨Nat.le_of_ble_eq_true rfl, Nat.le_of_ble_eq_true rfl⟩) rfl (Nat.le_of_ble_eq_true rfl) ⟨Nat.le_trans (by omega) hce, Nat.le_trans (by omega) hsl⟩ dL_law_1084 (z_p ?_)
  refine z_stk (st' := [.int (nI kk)]) rfl ?_
  refine z_iload C dL_law_1087 1 rfl ?_
  refine z_icmp_eq C 1094 True ⟨fun _ => trivial, fun _ => rfl⟩ dL_law_1089 (by decide) (fun _ => ?_) (fun h9 => absurd trivial h9)
  refine z_iload C dL_law_1094 1 rfl ?_
  refine z_if_ne C 1111 (kk = 0) (nz_iff hkk) dL_law_1096 (by decide) (fun h0 => ?_) (fun h0 => ?_)
  · -- thrown
    refine z_goto C 1196 dL_law_1111 (by decide) ?_
    refine z_sub (lv' := [(0, .ref b), (1, .ref a0), (2, .ref m0), (3, .ref o0), (4, .int (nI i))]) [2, 3, 4, 5, 6] rfl ?_
    refine z_wide (ce + 4) (sl + 34) (by omega) (by omega) ?_
    exact K L1 F2 n9 now9 sk9 fd9 g9 hnow9 ⟨hcl9, ⟨_, hmo9⟩, hrl9, hLo1, ⟨fo1, hFo2⟩⟩
  · -- answered
    refine z_aload_n C dL_law_1099 rfl 5 rfl ?_
    refine z_iconst C (nI 0) dL_law_1100 (by decide) ?_
    refine z_lald C hLo1 hFo2 (by omega) (by omega) dL_law_1101 (fo1 0) rfl ?_
    refine z_iload C dL_law_1102 0 rfl ?_
    refine z_i2l C (r.toInt64) dL_law_1104 rfl ?_
    refine z_lcmp C 0 dL_law_1105 (by rw [hval h0]; exact lg_cmp_self _) ?_
    refine z_if_eq C 1111 True ⟨fun _ => trivial, fun _ => rfl⟩ dL_law_1106 (by decide) (fun _ => ?_) (fun h9 => absurd trivial h9)
    refine z_goto C 1196 dL_law_1111 (by decide) ?_
    refine z_sub (lv' := [(0, .ref b), (1, .ref a0), (2, .ref m0), (3, .ref o0), (4, .int (nI i))]) [2, 3, 4, 5, 6] rfl ?_
    refine z_wide (ce + 4) (sl + 34) (by omega) (by omega) ?_
    exact K L1 F2 n9 now9 sk9 fd9 g9 hnow9 ⟨hcl9, ⟨_, hmo9⟩, hrl9, hLo1, ⟨fo1, hFo2⟩⟩

set_option maxHeartbeats 4000000 in
set_option maxRecDepth 100000 in
theorem lc_choiceByListing {p : Program} {e : Env} {s : State} {m : MethodId} {args : Array Value} {below : List Frame} {meth : Method} {c : Code} {G : zGt} {A : Nat → Prop} {Q : State → Prop} {b N i ce sl : Nat} {xs : Nat → Int32} {L : List Nat} {F : Nat → va_E} {a0 m0 c0 c1 c2 c3 c4 c5 c6 o0 n now sk : Nat} {fd g : Nat → FdT} (l : Launch) (hlst : l.stackTraces = false) (hX : zLX p l s m args meth c b N xs G A) (hi : i + 3 < N) (hI : zLI G L F a0 m0 c0 c1 c2 c3 c4 c5 c6 o0 n now sk fd g) (hn9 : now ≤ 59900) (hce : ce + 4 ≤ 601024) (hsl : sl + 34 ≤ 7293034) (K : zLK p l e s m args below meth c G A Q b i ce sl a0 m0 c0 c1 c2 c3 c4 c5 c6 o0 now) : zW p l e room_1 s m args below meth c 7 G A Q ce sl L F 1114 [(0, .ref b), (1, .ref a0), (2, .ref m0), (3, .ref o0), (4, .int (nI i))] [] := by
  obtain ⟨C, hX, hbl, hbA, hN⟩ := hX
  obtain ⟨hcl, ⟨thr, hmo⟩, hrl, hLo, ⟨fo, hFo⟩⟩ := hI
  have hn12 : n ≤ 12 := hmo.2.2.2.2.1
  refine z_aload_n C dL_law_1114 rfl 1 rfl ?_
  refine z_aload_n C dL_law_1115 rfl 0 rfl ?_
  refine z_iload C dL_law_1116 4 rfl ?_
  refine z_iconst C (nI 1) dL_law_1118 (by decide) ?_
  refine z_iadd C (nI (i + 1)) dL_law_1119 (nI_add i 1) ?_
  refine z_sld C hX hbl hbA (by omega) (by omega) dL_law_1120 ?_
  refine z_aload_n C dL_law_1121 rfl 3 rfl ?_
  refine z_callSH (As := [.ref a0, .int (xs (i + 1)), .ref o0]) (st := []) (mc := 2) (ms := 12) C (c_L_choiceByListing l hlst G L F (zMs m0 c0 c1 c2 c3 c4 c5 c6 o0) a0 n now sk fd o0 fo zMs_o hLo hFo hcl (xs (i + 1))) (vx_cwSW 3 C.1.2.2.2.2 gL_law_L_choiceByListing rfl rfl rfl (by decide +kernel) ⟨Nat.le_of_ble_eq_true rfl, Nat.le_of_ble_eq_true rfl⟩) rfl (Nat.le_of_ble_eq_true rfl) ⟨Nat.le_trans (by omega) hce, Nat.le_trans (by omega) hsl⟩ dL_law_1122 (fun E9 L9 F9 hx => hx.elim) (fun rv9 L1 F1 hp => ?_)
  obtain ⟨eL, hk1, fo1, hFo1, hd⟩ := hp
  obtain ⟨kk, hkk, erv, hd⟩ := wr3 hd
  rw [erv]
  have hL1 : ∀ b, b ∈ L → b ∈ L1 := fun b hb => eL ▸ hb
  have hmo1 := hmo.off hL1 ⟨fo, hFo⟩ hk1
  refine z_stk (st' := [.int (nI kk)]) rfl ?_
  refine z_istore (lv' := [(5, .int (nI kk)), (0, .ref b), (1, .ref a0), (2, .ref m0), (3, .ref o0), (4, .int (nI i))]) C dL_law_1125 (by decide) rfl ?_
  refine z_aload_n C dL_law_1127 rfl 3 rfl ?_
  refine z_aload_n C dL_law_1128 rfl 1 rfl ?_
  refine z_iload C dL_law_1129 5 rfl ?_
  refine z_iconst C (nI 1) dL_law_1131 (by decide) ?_
  refine z_iadd C (nI (i + 1)) dL_law_1132 (nI_add i 1) ?_
  refine z_sld C hX hbl hbA (by omega) (by omega) dL_law_1133 ?_
  refine z_callV (As := [.int (xs (i + 1))]) (st := []) (mc := 0) (ms := 0) C hmo1.1.1 hmo1.2.1.1 rfl (c_X3_choiceByListing l hlst G L1 F1 m0 c0 c1 c2 c3 c4 c5 c6 n now sk thr g hmo1 (xs (i + 1))) (cwV 1 C.1.2.2.2.2 gL_law_X3_choiceByListing rfl rfl rfl (by decide +kernel) ⟨Nat.le_of_ble_eq_true rfl, Nat.le_of_ble_eq_true rfl⟩) rfl (Nat.le_of_ble_eq_true rfl) ⟨Nat.le_trans (by omega) hce, Nat.le_trans (by omega) hsl⟩ dL_law_1134 (fun rv9 L2 F2 hp2 => ?_)
  obtain ⟨r, er, eL2, hk2, hd2⟩ := hp2
  rw [er, eL2]
  have hag : zAg G L1 F2 a0 m0 c0 c1 c2 c3 c4 c5 c6 o0 kk fo1 r now := by
    have hkM := mKeep (o0 := o0) hk2
    rcases hd with ⟨ek, sf, b1, hj, h1, h2, hB, hf, hv, hc⟩ | ⟨ek, hj, hc⟩ | ⟨ek, ⟨sf, hj, h1, h2, hf⟩, hc⟩
    · rcases hd2 with ⟨sf', b1', hj', h1', h2', hB', hf', hr, hm⟩ | ⟨hj', hm⟩ | ⟨sf', hj', h1', h2', hf', hm⟩
      · subst ek
        have esf : sf = sf' := nIe (by omega) (by omega) (hj.symm.trans hj')
        subst esf
        have ebb : b1 = b1' := isB_one hn12 h1 (hrl.B hB) hB'
        subst ebb
        exact ⟨n, now, sk, fd, g, hc.offM hkM, hm, hrl, fun _ => hv.trans (by rw [hr]), (by omega)⟩
      · exact absurd (zIn_in (by decide) h1 h2 hj) hj'
      · have hfc := hrl.fc
        omega
    · rcases hd2 with ⟨sf', b1', hj', h1', h2', hB', hf', hr, hm⟩ | ⟨hj', hm⟩ | ⟨sf', hj', h1', h2', hf', hm⟩
      · exact absurd (zIn_in (by decide) h1' h2' hj') hj
      · subst ek
        exact ⟨n, now, sk, fd, g, hc.offM hkM, hm, hrl, fun q => absurd q (by decide), (by omega)⟩
      · exact absurd (zIn_in (by decide) h1' h2' hj') hj
    · rcases hd2 with ⟨sf', b1', hj', h1', h2', hB', hf', hr, hm⟩ | ⟨hj', hm⟩ | ⟨sf', hj', h1', h2', hf', hm⟩
      · have hfc := hrl.fc
        omega
      · exact absurd (zIn_in (by decide) h1 h2 hj) hj'
      · subst ek
        exact ⟨n, now, sk, fd, g, hc.offM hkM, hm, hrl, fun q => absurd q (by decide), (by omega)⟩
  have hFo2 := (oKeep hmo1 ⟨fo1, hFo1⟩ hk2).trans hFo1
  have hLo1 := hL1 _ hLo
  obtain ⟨n9, now9, sk9, fd9, g9, hcl9, hmo9, hrl9, hval, hnow9⟩ := hag
  refine z_stk (st' := [.int r]) rfl ?_
  refine z_istore (lv' := [(6, .int r), (5, .int (nI kk)), (0, .ref b), (1, .ref a0), (2, .ref m0), (3, .ref o0), (4, .int (nI i))]) C dL_law_1137 (by decide) rfl ?_
  refine z_aload_n C dL_law_1139 rfl 4 rfl ?_
  refine z_callV (As := []) (st := []) (mc := 0) (ms := 0) C hmo9.1.1 hmo9.2.1.1 rfl (c_X3_thrown l hlst G L1 F2 m0 c0 c1 c2 c3 c4 c5 c6 n9 now9 sk9 kk g9 hmo9) (cwV 0 C.1.2.2.2.2 gL_law_X3_thrown rfl rfl rfl (by decide +kernel) ⟨Nat.le_of_ble_eq_true rfl, Nat.le_of_ble_eq_true rfl⟩) rfl (Nat.le_of_ble_eq_true rfl) ⟨Nat.le_trans (by omega) hce, Nat.le_trans (by omega) hsl⟩ dL_law_1140 (z_p ?_)
  refine z_stk (st' := [.int (nI kk)]) rfl ?_
  refine z_iload C dL_law_1143 1 rfl ?_
  refine z_icmp_eq C 1150 True ⟨fun _ => trivial, fun _ => rfl⟩ dL_law_1145 (by decide) (fun _ => ?_) (fun h9 => absurd trivial h9)
  refine z_iload C dL_law_1150 1 rfl ?_
  refine z_if_ne C 1167 (kk = 0) (nz_iff hkk) dL_law_1152 (by decide) (fun h0 => ?_) (fun h0 => ?_)
  · -- thrown
    refine z_goto C 1196 dL_law_1167 (by decide) ?_
    refine z_sub (lv' := [(0, .ref b), (1, .ref a0), (2, .ref m0), (3, .ref o0), (4, .int (nI i))]) [2, 3, 4, 5, 6] rfl ?_
    refine z_wide (ce + 4) (sl + 34) (by omega) (by omega) ?_
    exact K L1 F2 n9 now9 sk9 fd9 g9 hnow9 ⟨hcl9, ⟨_, hmo9⟩, hrl9, hLo1, ⟨fo1, hFo2⟩⟩
  · -- answered
    refine z_aload_n C dL_law_1155 rfl 5 rfl ?_
    refine z_iconst C (nI 0) dL_law_1156 (by decide) ?_
    refine z_lald C hLo1 hFo2 (by omega) (by omega) dL_law_1157 (fo1 0) rfl ?_
    refine z_iload C dL_law_1158 0 rfl ?_
    refine z_i2l C (r.toInt64) dL_law_1160 rfl ?_
    refine z_lcmp C 0 dL_law_1161 (by rw [hval h0]; exact lg_cmp_self _) ?_
    refine z_if_eq C 1167 True ⟨fun _ => trivial, fun _ => rfl⟩ dL_law_1162 (by decide) (fun _ => ?_) (fun h9 => absurd trivial h9)
    refine z_goto C 1196 dL_law_1167 (by decide) ?_
    refine z_sub (lv' := [(0, .ref b), (1, .ref a0), (2, .ref m0), (3, .ref o0), (4, .int (nI i))]) [2, 3, 4, 5, 6] rfl ?_
    refine z_wide (ce + 4) (sl + 34) (by omega) (by omega) ?_
    exact K L1 F2 n9 now9 sk9 fd9 g9 hnow9 ⟨hcl9, ⟨_, hmo9⟩, hrl9, hLo1, ⟨fo1, hFo2⟩⟩
