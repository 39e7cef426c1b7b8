set_option maxHeartbeats 4000000 in
set_option maxRecDepth 100000 in
theorem lc_feeder {p : Program} {e : Env} {s : State} {m : MethodId} {args : Array Value} {below : List Frame} {meth : Method} {c : Code} {G : zGt} {A : Nat → Prop} {Q : State → Prop} {b N i ce sl : Nat} {xs : Nat → Int32} {L : List Nat} {F : Nat → va_E} {a0 m0 c0 c1 c2 c3 c4 c5 c6 o0 n now sk : Nat} {fd g : Nat → FdT} (l : Launch) (hlst : l.stackTraces = false) (hX : zLX p l s m args meth c b N xs G A) (hi : i + 3 < N) (hI : zLI G L F a0 m0 c0 c1 c2 c3 c4 c5 c6 o0 n now sk fd g) (hn9 : now ≤ 59900) (hce : ce + 4 ≤ 601024) (hsl : sl + 34 ≤ 7293034) (K : zLK p l e s m args below meth c G A Q b i ce sl a0 m0 c0 c1 c2 c3 c4 c5 c6 o0 now) : zW p l e room_1 s m args below meth c 7 G A Q ce sl L F 140 [(0, .ref b), (1, .ref a0), (2, .ref m0), (3, .ref o0), (4, .int (nI i))] [] := by
  obtain ⟨C, hX, hbl, hbA, hN⟩ := hX
  obtain ⟨hcl, ⟨thr, hmo⟩, hrl, hLo, ⟨fo, hFo⟩⟩ := hI
  have hn12 : n ≤ 12 := hmo.2.2.2.2.1
  refine z_aload_n C dL_law_140 rfl 1 rfl ?_
  refine z_aload_n C dL_law_141 rfl 0 rfl ?_
  refine z_iload C dL_law_142 4 rfl ?_
  refine z_iconst C (nI 1) dL_law_144 (by decide) ?_
  refine z_iadd C (nI (i + 1)) dL_law_145 (nI_add i 1) ?_
  refine z_sld C hX hbl hbA (by omega) (by omega) dL_law_146 ?_
  refine z_aload_n C dL_law_147 rfl 0 rfl ?_
  refine z_iload C dL_law_148 4 rfl ?_
  refine z_iconst C (nI 2) dL_law_150 (by decide) ?_
  refine z_iadd C (nI (i + 2)) dL_law_151 (nI_add i 2) ?_
  refine z_sld C hX hbl hbA (by omega) (by omega) dL_law_152 ?_
  refine z_if_eq C 160 (xs (i + 2) = 0) Iff.rfl dL_law_153 (by decide) (fun hz => ?_) (fun hz => ?_)
  · -- false
    refine z_iconst C (nI 0) dL_law_160 (by decide) ?_
    refine z_aload_n C dL_law_161 rfl 0 rfl ?_
    refine z_iload C dL_law_162 4 rfl ?_
    refine z_iconst C (nI 3) dL_law_164 (by decide) ?_
    refine z_iadd C (nI (i + 3)) dL_law_165 (nI_add i 3) ?_
    refine z_sld C hX hbl hbA (by omega) (by omega) dL_law_166 ?_
    refine z_aload_n C dL_law_167 rfl 3 rfl ?_
    refine z_callSH (As := [.ref a0, .int (xs (i + 1)), .int (nI 0), .int (xs (i + 3)), .ref o0]) (st := []) (mc := 4) (ms := 34) C (c_L_feeder l hlst G L F (zMs m0 c0 c1 c2 c3 c4 c5 c6 o0) a0 n now sk fd o0 fo zMs_o hLo hFo hcl (xs (i + 1)) (xs (i + 3)) 0 (by decide) (zMs_in hmo hLo)) (vx_cwSW 5 C.1.2.2.2.2 gL_law_L_feeder rfl rfl rfl (by decide +kernel) ⟨Nat.le_of_ble_eq_true rfl, Nat.le_of_ble_eq_true rfl⟩) rfl (Nat.le_of_ble_eq_true rfl) ⟨Nat.le_trans (by omega) hce, Nat.le_trans (by omega) hsl⟩ dL_law_168 (fun E9 L9 F9 hx => hx.elim) (fun rv9 L1 F1 hp => ?_)
    obtain ⟨eL, hk1, fo1, hFo1, hd⟩ := hp
    obtain ⟨kk, hkk, erv, hd⟩ := wr3 hd
    rw [erv]
    have hL1 := eL
    have hmo1 := hmo.off hL1 ⟨fo, hFo⟩ hk1
    refine z_stk (st' := [.int (nI kk)]) rfl ?_
    refine z_istore (lv' := [(5, .int (nI kk)), (0, .ref b), (1, .ref a0), (2, .ref m0), (3, .ref o0), (4, .int (nI i))]) C dL_law_171 (by decide) rfl ?_
    refine z_aload_n C dL_law_173 rfl 3 rfl ?_
    refine z_aload_n C dL_law_174 rfl 1 rfl ?_
    refine z_iload C dL_law_175 5 rfl ?_
    refine z_iconst C (nI 1) dL_law_177 (by decide) ?_
    refine z_iadd C (nI (i + 1)) dL_law_178 (nI_add i 1) ?_
    refine z_sld C hX hbl hbA (by omega) (by omega) dL_law_179 ?_
    refine z_aload_n C dL_law_180 rfl 1 rfl ?_
    refine z_iload C dL_law_181 5 rfl ?_
    refine z_iconst C (nI 2) dL_law_183 (by decide) ?_
    refine z_iadd C (nI (i + 2)) dL_law_184 (nI_add i 2) ?_
    refine z_sld C hX hbl hbA (by omega) (by omega) dL_law_185 ?_
    refine z_if_eq C 193 (xs (i + 2) = 0) Iff.rfl dL_law_186 (by decide) (fun _ => ?_) (fun h9 => absurd hz h9)
    refine z_iconst C (nI 0) dL_law_193 (by decide) ?_
    refine z_aload_n C dL_law_194 rfl 1 rfl ?_
    refine z_iload C dL_law_195 5 rfl ?_
    refine z_iconst C (nI 3) dL_law_197 (by decide) ?_
    refine z_iadd C (nI (i + 3)) dL_law_198 (nI_add i 3) ?_
    refine z_sld C hX hbl hbA (by omega) (by omega) dL_law_199 ?_
    refine z_callV (As := [.int (xs (i + 1)), .int (nI 0), .int (xs (i + 3))]) (st := []) (mc := 0) (ms := 0) C hmo1.1.1 hmo1.2.1.1 rfl (c_X3_feeder l hlst G L1 F1 m0 c0 c1 c2 c3 c4 c5 c6 n now sk thr g hmo1 (xs (i + 1)) (xs (i + 3)) 0 (by decide)) (cwV 3 C.1.2.2.2.2 gL_law_X3_feeder rfl rfl rfl (by decide +kernel) ⟨Nat.le_of_ble_eq_true rfl, Nat.le_of_ble_eq_true rfl⟩) rfl (Nat.le_of_ble_eq_true rfl) ⟨Nat.le_trans (by omega) hce, Nat.le_trans (by omega) hsl⟩ dL_law_200 (fun rv9 L2 F2 hp2 => ?_)
    obtain ⟨r, er, eL2, hk2, hd2⟩ := hp2
    rw [er, eL2]
    have hag : zAg G L1 F2 a0 m0 c0 c1 c2 c3 c4 c5 c6 o0 kk fo1 r now := by
      have hkM := mKeep (o0 := o0) hk2
      rcases hd with ⟨ek, j1, j3, hj1, h1, h2, hj3, h3, hn, hv, hc⟩ | ⟨ek, hno, hc⟩ | ⟨ek, ⟨hi1, hi3, hn⟩, hc⟩
      · rcases hd2 with ⟨j1', j3', hj1', h1', h2', hj3', h3', hn', hr, hm⟩ | ⟨hno', hm⟩ | ⟨hi1', hi3', hn', hm⟩
        · subst ek
          have ej1 : j1 = j1' := nIe (by omega) (by omega) (hj1.symm.trans hj1')
          have ej3 : j3 = j3' := nIe (by omega) (by omega) (hj3.symm.trans hj3')
          subst ej1
          subst ej3
          exact ⟨(n + 1), now, sk, (upF fd n (j3, j1, 0, 0, 0, 0, 0)), (upF g n (j3, j1, 0, 0, 0, 0, 0)), hc.offM hkM, hm, (hrl.grow (fEq.rfl' _)), fun _ => hv.trans (by rw [hr]), (by omega)⟩
        · exact absurd ⟨zIn_in (by decide) h1 h2 hj1, zIn_in (by decide) (Nat.zero_le _) h3 hj3⟩ hno'
        · exfalso; omega
      · rcases hd2 with ⟨j1', j3', hj1', h1', h2', hj3', h3', hn', hr, hm⟩ | ⟨hno', hm⟩ | ⟨hi1', hi3', hn', hm⟩
        · exact absurd ⟨zIn_in (by decide) h1' h2' hj1', zIn_in (by decide) (Nat.zero_le _) h3' hj3'⟩ hno
        · subst ek
          exact ⟨n, now, sk, fd, g, hc.offM hkM, hm, hrl, fun q => absurd q (by decide), (by omega)⟩
        · exact absurd ⟨hi1', hi3'⟩ hno
      · rcases hd2 with ⟨j1', j3', hj1', h1', h2', hj3', h3', hn', hr, hm⟩ | ⟨hno', hm⟩ | ⟨hi1', hi3', hn', hm⟩
        · exfalso; omega
        · exact absurd ⟨hi1, hi3⟩ hno'
        · subst ek
          exact ⟨n, now, sk, fd, g, hc.offM hkM, hm, hrl, fun q => absurd q (by decide), (by omega)⟩
    have hFo2 := (oKeep hmo1 ⟨fo1, hFo1⟩ hk2).trans hFo1
    have hLo1 := hL1 _ hLo
    obtain ⟨n9, now9, sk9, fd9, g9, hcl9, hmo9, hrl9, hval, hnow9⟩ := hag
    refine z_stk (st' := [.int r]) rfl ?_
    refine z_istore (lv' := [(6, .int r), (5, .int (nI kk)), (0, .ref b), (1, .ref a0), (2, .ref m0), (3, .ref o0), (4, .int (nI i))]) C dL_law_203 (by decide) rfl ?_
    refine z_aload_n C dL_law_205 rfl 4 rfl ?_
    refine z_callV (As := []) (st := []) (mc := 0) (ms := 0) C hmo9.1.1 hmo9.2.1.1 rfl (c_X3_thrown l hlst G L1 F2 m0 c0 c1 c2 c3 c4 c5 c6 n9 now9 sk9 kk g9 hmo9) (cwV 0 C.1.2.2.2.2 gL_law_X3_thrown rfl rfl rfl (by decide +kernel) ⟨Nat.le_of_ble_eq_true rfl, Nat.le_of_ble_eq_true rfl⟩) rfl (Nat.le_of_ble_eq_true rfl) ⟨Nat.le_trans (by omega) hce, Nat.le_trans (by omega) hsl⟩ dL_law_206 (z_p ?_)
    refine z_stk (st' := [.int (nI kk)]) rfl ?_
    refine z_iload C dL_law_209 1 rfl ?_
    refine z_icmp_eq C 216 True ⟨fun _ => trivial, fun _ => rfl⟩ dL_law_211 (by decide) (fun _ => ?_) (fun h9 => absurd trivial h9)
    refine z_iload C dL_law_216 1 rfl ?_
    refine z_if_ne C 233 (kk = 0) (nz_iff hkk) dL_law_218 (by decide) (fun h0 => ?_) (fun h0 => ?_)
    · -- thrown
      refine z_goto C 1196 dL_law_233 (by decide) ?_
      refine z_sub (lv' := [(0, .ref b), (1, .ref a0), (2, .ref m0), (3, .ref o0), (4, .int (nI i))]) [2, 3, 4, 5, 6] rfl ?_
      refine z_wide (ce + 4) (sl + 34) (by omega) (by omega) ?_
      exact K L1 F2 n9 now9 sk9 fd9 g9 hnow9 ⟨hcl9, ⟨_, hmo9⟩, hrl9, hLo1, ⟨fo1, hFo2⟩⟩
    · -- answered
      refine z_aload_n C dL_law_221 rfl 5 rfl ?_
      refine z_iconst C (nI 0) dL_law_222 (by decide) ?_
      refine z_lald C hLo1 hFo2 (by omega) (by omega) dL_law_223 (fo1 0) rfl ?_
      refine z_iload C dL_law_224 0 rfl ?_
      refine z_i2l C (r.toInt64) dL_law_226 rfl ?_
      refine z_lcmp C 0 dL_law_227 (by rw [hval h0]; exact lg_cmp_self _) ?_
      refine z_if_eq C 233 True ⟨fun _ => trivial, fun _ => rfl⟩ dL_law_228 (by decide) (fun _ => ?_) (fun h9 => absurd trivial h9)
      refine z_goto C 1196 dL_law_233 (by decide) ?_
      refine z_sub (lv' := [(0, .ref b), (1, .ref a0), (2, .ref m0), (3, .ref o0), (4, .int (nI i))]) [2, 3, 4, 5, 6] rfl ?_
      refine z_wide (ce + 4) (sl + 34) (by omega) (by omega) ?_
      exact K L1 F2 n9 now9 sk9 fd9 g9 hnow9 ⟨hcl9, ⟨_, hmo9⟩, hrl9, hLo1, ⟨fo1, hFo2⟩⟩
  · -- true
    refine z_iconst C (nI 1) dL_law_156 (by decide) ?_
    refine z_goto C 161 dL_law_157 (by decide) ?_
    refine z_aload_n C dL_law_161 rfl 0 rfl ?_
    refine z_iload C dL_law_162 4 rfl ?_
    refine z_iconst C (nI 3) dL_law_164 (by decide) ?_
    refine z_iadd C (nI (i + 3)) dL_law_165 (nI_add i 3) ?_
    refine z_sld C hX hbl hbA (by omega) (by omega) dL_law_166 ?_
    refine z_aload_n C dL_law_167 rfl 3 rfl ?_
    refine z_callSH (As := [.ref a0, .int (xs (i + 1)), .int (nI 1), .int (xs (i + 3)), .ref o0]) (st := []) (mc := 4) (ms := 34) C (c_L_feeder l hlst G L F (zMs m0 c0 c1 c2 c3 c4 c5 c6 o0) a0 n now sk fd o0 fo zMs_o hLo hFo hcl (xs (i + 1)) (xs (i + 3)) 1 (by decide) (zMs_in hmo hLo)) (vx_cwSW 5 C.1.2.2.2.2 gL_law_L_feeder rfl rfl rfl (by decide +kernel) ⟨Nat.le_of_ble_eq_true rfl, Nat.le_of_ble_eq_true rfl⟩) rfl (Nat.le_of_ble_eq_true rfl) ⟨Nat.le_trans (by omega) hce, Nat.le_trans (by omega) hsl⟩ dL_law_168 (fun E9 L9 F9 hx => hx.elim) (fun rv9 L1 F1 hp => ?_)
    obtain ⟨eL, hk1, fo1, hFo1, hd⟩ := hp
    obtain ⟨kk, hkk, erv, hd⟩ := wr3 hd
    rw [erv]
    have hL1 := eL
    have hmo1 := hmo.off hL1 ⟨fo, hFo⟩ hk1
    refine z_stk (st' := [.int (nI kk)]) rfl ?_
    refine z_istore (lv' := [(5, .int (nI kk)), (0, .ref b), (1, .ref a0), (2, .ref m0), (3, .ref o0), (4, .int (nI i))]) C dL_law_171 (by decide) rfl ?_
    refine z_aload_n C dL_law_173 rfl 3 rfl ?_
    refine z_aload_n C dL_law_174 rfl 1 rfl ?_
    refine z_iload C dL_law_175 5 rfl ?_
    refine z_iconst C (nI 1) dL_law_177 (by decide) ?_
    refine z_iadd C (nI (i + 1)) dL_law_178 (nI_add i 1) ?_
    refine z_sld C hX hbl hbA (by omega) (by omega) dL_law_179 ?_
    refine z_aload_n C dL_law_180 rfl 1 rfl ?_
    refine z_iload C dL_law_181 5 rfl ?_
    refine z_iconst C (nI 2) dL_law_183 (by decide) ?_
    refine z_iadd C (nI (i + 2)) dL_law_184 (nI_add i 2) ?_
    refine z_sld C hX hbl hbA (by omega) (by omega) dL_law_185 ?_
    refine z_if_eq C 193 (xs (i + 2) = 0) Iff.rfl dL_law_186 (by decide) (fun h9 => absurd h9 hz) (fun _ => ?_)
    refine z_iconst C (nI 1) dL_law_189 (by decide) ?_
    refine z_goto C 194 dL_law_190 (by decide) ?_
    refine z_aload_n C dL_law_194 rfl 1 rfl ?_
    refine z_iload C dL_law_195 5 rfl ?_
    refine z_iconst C (nI 3) dL_law_197 (by decide) ?_
    refine z_iadd C (nI (i + 3)) dL_law_198 (nI_add i 3) ?_
    refine z_sld C hX hbl hbA (by omega) (by omega) dL_law_199 ?_
    refine z_callV (As := [.int (xs (i + 1)), .int (nI 1), .int (xs (i + 3))]) (st := []) (mc := 0) (ms := 0) C hmo1.1.1 hmo1.2.1.1 rfl (c_X3_feeder l hlst G L1 F1 m0 c0 c1 c2 c3 c4 c5 c6 n now sk thr g hmo1 (xs (i + 1)) (xs (i + 3)) 1 (by decide)) (cwV 3 C.1.2.2.2.2 gL_law_X3_feeder rfl rfl rfl (by decide +kernel) ⟨Nat.le_of_ble_eq_true rfl, Nat.le_of_ble_eq_true rfl⟩) rfl (Nat.le_of_ble_eq_true rfl) ⟨Nat.le_trans (by omega) hce, Nat.le_trans (by omega) hsl⟩ dL_law_200 (fun rv9 L2 F2 hp2 => ?_)
    obtain ⟨r, er, eL2, hk2, hd2⟩ := hp2
    rw [er, eL2]
    have hag : zAg G L1 F2 a0 m0 c0 c1 c2 c3 c4 c5 c6 o0 kk fo1 r now := by
      have hkM := mKeep (o0 := o0) hk2
      rcases hd with ⟨ek, j1, j3, hj1, h1, h2, hj3, h3, hn, hv, hc⟩ | ⟨ek, hno, hc⟩ | ⟨ek, ⟨hi1, hi3, hn⟩, hc⟩
      · rcases hd2 with ⟨j1', j3', hj1', h1', h2', hj3', h3', hn', hr, hm⟩ | ⟨hno', hm⟩ | ⟨hi1', hi3', hn', hm⟩
        · subst ek
          have ej1 : j1 = j1' := nIe (by omega) (by omega) (hj1.symm.trans hj1')
          have ej3 : j3 = j3' := nIe (by omega) (by omega) (hj3.symm.trans hj3')
          subst ej1
          subst ej3
          exact ⟨(n + 1), now, sk, (upF fd n (j3, j1, 1, 0, 0, 0, 0)), (upF g n (j3, j1, 1, 0, 0, 0, 0)), hc.offM hkM, hm, (hrl.grow (fEq.rfl' _)), fun _ => hv.trans (by rw [hr]), (by omega)⟩
        · exact absurd ⟨zIn_in (by decide) h1 h2 hj1, zIn_in (by decide) (Nat.zero_le _) h3 hj3⟩ hno'
        · exfalso; omega
      · rcases hd2 with ⟨j1', j3', hj1', h1', h2', hj3', h3', hn', hr, hm⟩ | ⟨hno', hm⟩ | ⟨hi1', hi3', hn', hm⟩
        · exact absurd ⟨zIn_in (by decide) h1' h2' hj1', zIn_in (by decide) (Nat.zero_le _) h3' hj3'⟩ hno
        · subst ek
          exact ⟨n, now, sk, fd, g, hc.offM hkM, hm, hrl, fun q => absurd q (by decide), (by omega)⟩
        · exact absurd ⟨hi1', hi3'⟩ hno
      · rcases hd2 with ⟨j1', j3', hj1', h1', h2', hj3', h3', hn', hr, hm⟩ | ⟨hno', hm⟩ | ⟨hi1', hi3', hn', hm⟩
        · exfalso; omega
        · exact absurd ⟨hi1, hi3⟩ hno'
        · subst ek
          exact ⟨n, now, sk, fd, g, hc.offM hkM, hm, hrl, fun q => absurd q (by decide), (by omega)⟩
    have hFo2 := (oKeep hmo1 ⟨fo1, hFo1⟩ hk2).trans hFo1
    have hLo1 := hL1 _ hLo
    obtain ⟨n9, now9, sk9, fd9, g9, hcl9, hmo9, hrl9, hval, hnow9⟩ := hag
    refine z_stk (st' := [.int r]) rfl ?_
    refine z_istore (lv' := [(6, .int r), (5, .int (nI kk)), (0, .ref b), (1, .ref a0), (2, .ref m0), (3, .ref o0), (4, .int (nI i))]) C dL_law_203 (by decide) rfl ?_
    refine z_aload_n C dL_law_205 rfl 4 rfl ?_
    refine z_callV (As := []) (st := []) (mc := 0) (ms := 0) C hmo9.1.1 hmo9.2.1.1 rfl (c_X3_thrown l hlst G L1 F2 m0 c0 c1 c2 c3 c4 c5 c6 n9 now9 sk9 kk g9 hmo9) (cwV 0 C.1.2.2.2.2 gL_law_X3_thrown rfl rfl rfl (by decide +kernel) ⟨Nat.le_of_ble_eq_true rfl, Nat.le_of_ble_eq_true rfl⟩) rfl (Nat.le_of_ble_eq_true rfl) ⟨Nat.le_trans (by omega) hce, Nat.le_trans (by omega) hsl⟩ dL_law_206 (z_p ?_)
    refine z_stk (st' := [.int (nI kk)]) rfl ?_
    refine z_iload C dL_law_209 1 rfl ?_
    refine z_icmp_eq C 216 True ⟨fun _ => trivial, fun _ => rfl⟩ dL_law_211 (by decide) (fun _ => ?_) (fun h9 => absurd trivial h9)
    refine z_iload C dL_law_216 1 rfl ?_
    refine z_if_ne C 233 (kk = 0) (nz_iff hkk) dL_law_218 (by decide) (fun h0 => ?_) (fun h0 => ?_)
    · -- thrown
      refine z_goto C 1196 dL_law_233 (by decide) ?_
      refine z_sub (lv' := [(0, .ref b), (1, .ref a0), (2, .ref m0), (3, .ref o0), (4, .int (nI i))]) [2, 3, 4, 5, 6] rfl ?_
      refine z_wide (ce + 4) (sl + 34) (by omega) (by omega) ?_
      exact K L1 F2 n9 now9 sk9 fd9 g9 hnow9 ⟨hcl9, ⟨_, hmo9⟩, hrl9, hLo1, ⟨fo1, hFo2⟩⟩
    · -- answered
      refine z_aload_n C dL_law_221 rfl 5 rfl ?_
      refine z_iconst C (nI 0) dL_law_222 (by decide) ?_
      refine z_lald C hLo1 hFo2 (by omega) (by omega) dL_law_223 (fo1 0) rfl ?_
      refine z_iload C dL_law_224 0 rfl ?_
      refine z_i2l C (r.toInt64) dL_law_226 rfl ?_
      refine z_lcmp C 0 dL_law_227 (by rw [hval h0]; exact lg_cmp_self _) ?_
      refine z_if_eq C 233 True ⟨fun _ => trivial, fun _ => rfl⟩ dL_law_228 (by decide) (fun _ => ?_) (fun h9 => absurd trivial h9)
      refine z_goto C 1196 dL_law_233 (by decide) ?_
      refine z_sub (lv' := [(0, .ref b), (1, .ref a0), (2, .ref m0), (3, .ref o0), (4, .int (nI i))]) [2, 3, 4, 5, 6] rfl ?_
      refine z_wide (ce + 4) (sl + 34) (by omega) (by omega) ?_
      exact K L1 F2 n9 now9 sk9 fd9 g9 hnow9 ⟨hcl9, ⟨_, hmo9⟩, hrl9, hLo1, ⟨fo1, hFo2⟩⟩

set_option maxHeartbeats 4000000 in
set_option maxRecDepth 100000 in
theorem lc_setLoad {p : Program} {e : Env} {s : State} {m : MethodId} {args : Array Value} {below : List Frame} {meth : Method} {c : Code} {G : zGt} {A : Nat → Prop} {Q : State → Prop} {b N i ce sl : Nat} {xs : Nat → Int32} {L : List Nat} {F : Nat → va_E} {a0 m0 c0 c1 c2 c3 c4 c5 c6 o0 n now sk : Nat} {fd g : Nat → FdT} (l : Launch) (hlst : l.stackTraces = false) (hX : zLX p l s m args meth c b N xs G A) (hi : i + 3 < N) (hI : zLI G L F a0 m0 c0 c1 c2 c3 c4 c5 c6 o0 n now sk fd g) (hn9 : now ≤ 59900) (hce : ce + 4 ≤ 601024) (hsl : sl + 34 ≤ 7293034) (K : zLK p l e s m args below meth c G A Q b i ce sl a0 m0 c0 c1 c2 c3 c4 c5 c6 o0 now) : zW p l e room_1 s m args below meth c 7 G A Q ce sl L F 236 [(0, .ref b), (1, .ref a0), (2, .ref m0), (3, .ref o0), (4, .int (nI i))] [] := by
  obtain ⟨C, hX, hbl, hbA, hN⟩ := hX
  obtain ⟨hcl, ⟨thr, hmo⟩, hrl, hLo, ⟨fo, hFo⟩⟩ := hI
  have hn12 : n ≤ 12 := hmo.2.2.2.2.1
  refine z_aload_n C dL_law_236 rfl 1 rfl ?_
  refine z_aload_n C dL_law_237 rfl 0 rfl ?_
  refine z_iload C dL_law_238 4 rfl ?_
  refine z_iconst C (nI 1) dL_law_240 (by decide) ?_
  refine z_iadd C (nI (i + 1)) dL_law_241 (nI_add i 1) ?_
  refine z_sld C hX hbl hbA (by omega) (by omega) dL_law_242 ?_
  refine z_aload_n C dL_law_243 rfl 0 rfl ?_
  refine z_iload C dL_law_244 4 rfl ?_
  refine z_iconst C (nI 2) dL_law_246 (by decide) ?_
  refine z_iadd C (nI (i + 2)) dL_law_247 (nI_add i 2) ?_
  refine z_sld C hX hbl hbA (by omega) (by omega) dL_law_248 ?_
  refine z_aload_n C dL_law_249 rfl 3 rfl ?_
  refine z_callSH (As := [.ref a0, .int (xs (i + 1)), .int (xs (i + 2)), .ref o0]) (st := []) (mc := 2) (ms := 12) C (c_L_setLoad l hlst G L F (zMs m0 c0 c1 c2 c3 c4 c5 c6 o0) a0 n now sk fd o0 fo zMs_o hLo hFo hcl (xs (i + 1)) (xs (i + 2))) (vx_cwSW 4 C.1.2.2.2.2 gL_law_L_setLoad rfl rfl rfl (by decide +kernel) ⟨Nat.le_of_ble_eq_true rfl, Nat.le_of_ble_eq_true rfl⟩) rfl (Nat.le_of_ble_eq_true rfl) ⟨Nat.le_trans (by omega) hce, Nat.le_trans (by omega) hsl⟩ dL_law_250 (fun E9 L9 F9 hx => hx.elim) (fun rv9 L1 F1 hp => ?_)
  obtain ⟨eL, hk1, fo1, hFo1, hd⟩ := hp
  obtain ⟨kk, hkk, erv, hd⟩ := wr3 hd
  rw [erv]
  have hL1 : ∀ b, b ∈ L → b ∈ L1 := fun b hb => eL ▸ hb
  have hmo1 := hmo.off hL1 ⟨fo, hFo⟩ hk1
  refine z_stk (st' := [.int (nI kk)]) rfl ?_
  refine z_istore (lv' := [(5, .int (nI kk)), (0, .ref b), (1, .ref a0), (2, .ref m0), (3, .ref o0), (4, .int (nI i))]) C dL_law_253 (by decide) rfl ?_
  refine z_aload_n C dL_law_255 rfl 3 rfl ?_
  refine z_aload_n C dL_law_256 rfl 1 rfl ?_
  refine z_iload C dL_law_257 5 rfl ?_
  refine z_iconst C (nI 1) dL_law_259 (by decide) ?_
  refine z_iadd C (nI (i + 1)) dL_law_260 (nI_add i 1) ?_
  refine z_sld C hX hbl hbA (by omega) (by omega) dL_law_261 ?_
  refine z_aload_n C dL_law_262 rfl 1 rfl ?_
  refine z_iload C dL_law_263 5 rfl ?_
  refine z_iconst C (nI 2) dL_law_265 (by decide) ?_
  refine z_iadd C (nI (i + 2)) dL_law_266 (nI_add i 2) ?_
  refine z_sld C hX hbl hbA (by omega) (by omega) dL_law_267 ?_
  refine z_callV (As := [.int (xs (i + 1)), .int (xs (i + 2))]) (st := []) (mc := 0) (ms := 0) C hmo1.1.1 hmo1.2.1.1 rfl (c_X3_setLoad l hlst G L1 F1 m0 c0 c1 c2 c3 c4 c5 c6 n now sk thr g hmo1 (xs (i + 1)) (xs (i + 2))) (cwV 2 C.1.2.2.2.2 gL_law_X3_setLoad rfl rfl rfl (by decide +kernel) ⟨Nat.le_of_ble_eq_true rfl, Nat.le_of_ble_eq_true rfl⟩) rfl (Nat.le_of_ble_eq_true rfl) ⟨Nat.le_trans (by omega) hce, Nat.le_trans (by omega) hsl⟩ dL_law_268 (fun rv9 L2 F2 hp2 => ?_)
  obtain ⟨r, er, eL2, hk2, hd2⟩ := hp2
  rw [er, eL2]
  have hag : zAg G L1 F2 a0 m0 c0 c1 c2 c3 c4 c5 c6 o0 kk fo1 r now := by
    have hkM := mKeep (o0 := o0) hk2
    rcases hd with ⟨ek, k, j, hk, hx, hj, h1, h2, hv, hc⟩ | ⟨ek, hx, hc⟩ | ⟨ek, ⟨hx, hj⟩, hc⟩
    · rcases hd2 with ⟨k', j', hx', hk', hj', h1', h2', hr, hm⟩ | ⟨hx', hm⟩ | ⟨hx', hj', hm⟩
      · subst ek
        have ekk : k = k' := nIe (by omega) (by omega) (hx.symm.trans hx')
        subst ekk
        have ejj : j = j' := nIe (by omega) (by omega) (hj.symm.trans hj')
        subst ejj
        exact ⟨n, now, sk, (upF fd k (fdLd j (fd k))), (upF g k (fdLd j (g k))), hc.offM hkM, hm, (hrl.up ((hrl k hk).ld j)), fun _ => hv.trans (by rw [hr]; exact congrArg (fun z => (nI z).toInt64) ((hrl k hk).2.1)), (by omega)⟩
      · exact absurd (zIx_in hn12 hk hx) hx'
      · exact absurd (zIn_in (by decide) h1 h2 hj) hj'
    · rcases hd2 with ⟨k', j', hx', hk', hj', h1', h2', hr, hm⟩ | ⟨hx', hm⟩ | ⟨hx', hj', hm⟩
      · exact absurd (zIx_in hn12 hk' hx') hx
      · subst ek
        exact ⟨n, now, sk, fd, g, hc.offM hkM, hm, hrl, fun q => absurd q (by decide), (by omega)⟩
      · exact absurd hx' hx
    · rcases hd2 with ⟨k', j', hx', hk', hj', h1', h2', hr, hm⟩ | ⟨hx', hm⟩ | ⟨hx', hj', hm⟩
      · exact absurd (zIn_in (by decide) h1' h2' hj') hj
      · exact absurd hx hx'
      · subst ek
        exact ⟨n, now, sk, fd, g, hc.offM hkM, hm, hrl, fun q => absurd q (by decide), (by omega)⟩
  have hFo2 := (oKeep hmo1 ⟨fo1, hFo1⟩ hk2).trans hFo1
  have hLo1 := hL1 _ hLo
  obtain ⟨n9, now9, sk9, fd9, g9, hcl9, hmo9, hrl9, hval, hnow9⟩ := hag
  refine z_stk (st' := [.int r]) rfl ?_
  refine z_istore (lv' := [(6, .int r), (5, .int (nI kk)), (0, .ref b), (1, .ref a0), (2, .ref m0), (3, .ref o0), (4, .int (nI i))]) C dL_law_271 (by decide) rfl ?_
  refine z_aload_n C dL_law_273 rfl 4 rfl ?_
  refine z_callV (As := []) (st := []) (mc := 0) (ms := 0) C hmo9.1.1 hmo9.2.1.1 rfl (c_X3_thrown l hlst G L1 F2 m0 c0 c1 c2 c3 c4 c5 c6 n9 now9 sk9 kk g9 hmo9) (cwV 0 C.1.2.2.2.2 gL_law_X3_thrown rfl rfl rfl (by decide +kernel) ⟨Nat.le_of_ble_eq_true rfl, Nat.le_of_ble_eq_true rfl⟩) rfl (Nat.le_of_ble_eq_true rfl) ⟨Nat.le_trans (by omega) hce, Nat.le_trans (by omega) hsl⟩ dL_law_274 (z_p ?_)
  refine z_stk (st' := [.int (nI kk)]) rfl ?_
  refine z_iload C dL_law_277 1 rfl ?_
  refine z_icmp_eq C 284 True ⟨fun _ => trivial, fun _ => rfl⟩ dL_law_279 (by decide) (fun _ => ?_) (fun h9 => absurd trivial h9)
  refine z_iload C dL_law_284 1 rfl ?_
  refine z_if_ne C 301 (kk = 0) (nz_iff hkk) dL_law_286 (by decide) (fun h0 => ?_) (fun h0 => ?_)
  · -- thrown
    refine z_goto C 1196 dL_law_301 (by decide) ?_
    refine z_sub (lv' := [(0, .ref b), (1, .ref a0), (2, .ref m0), (3, .ref o0), (4, .int (nI i))]) [2, 3, 4, 5, 6] rfl ?_
    refine z_wide (ce + 4) (sl + 34) (by omega) (by omega) ?_
    exact K L1 F2 n9 now9 sk9 fd9 g9 hnow9 ⟨hcl9, ⟨_, hmo9⟩, hrl9, hLo1, ⟨fo1, hFo2⟩⟩
  · -- answered
    refine z_aload_n C dL_law_289 rfl 5 rfl ?_
    refine z_iconst C (nI 0) dL_law_290 (by decide) ?_
    refine z_lald C hLo1 hFo2 (by omega) (by omega) dL_law_291 (fo1 0) rfl ?_
    refine z_iload C dL_law_292 0 rfl ?_
    refine z_i2l C (r.toInt64) dL_law_294 rfl ?_
    refine z_lcmp C 0 dL_law_295 (by rw [hval h0]; exact lg_cmp_self _) ?_
    refine z_if_eq C 301 True ⟨fun _ => trivial, fun _ => rfl⟩ dL_law_296 (by decide) (fun _ => ?_) (fun h9 => absurd trivial h9)
    refine z_goto C 1196 dL_law_301 (by decide) ?_
    refine z_sub (lv' := [(0, .ref b), (1, .ref a0), (2, .ref m0), (3, .ref o0), (4, .int (nI i))]) [2, 3, 4, 5, 6] rfl ?_
    refine z_wide (ce + 4) (sl + 34) (by omega) (by omega) ?_
    exact K L1 F2 n9 now9 sk9 fd9 g9 hnow9 ⟨hcl9, ⟨_, hmo9⟩, hrl9, hLo1, ⟨fo1, hFo2⟩⟩
