set_option maxHeartbeats 4000000 in
set_option maxRecDepth 100000 in
theorem lc_setCritical {p : Program} {e : Env} {s : State} {m : MethodId} {args : Array Value} {below : List Frame} {meth : Method} {c : Code} {G : zGt} {A : Nat → Prop} {Q : State → Prop} {b N i ce sl : Nat} {xs : Nat → Int32} {L : List Nat} {F : Nat → va_E} {a0 m0 c0 c1 c2 c3 c4 c5 c6 o0 n now sk : Nat} {fd g : Nat → FdT} (l : Launch) (hlst : l.stackTraces = false) (hX : zLX p l s m args meth c b N xs G A) (hi : i + 3 < N) (hI : zLI G L F a0 m0 c0 c1 c2 c3 c4 c5 c6 o0 n now sk fd g) (hn9 : now ≤ 59900) (hce : ce + 4 ≤ 601024) (hsl : sl + 34 ≤ 7293034) (K : zLK p l e s m args below meth c G A Q b i ce sl a0 m0 c0 c1 c2 c3 c4 c5 c6 o0 now) : zW p l e room_1 s m args below meth c 7 G A Q ce sl L F 304 [(0, .ref b), (1, .ref a0), (2, .ref m0), (3, .ref o0), (4, .int (nI i))] [] := by
  obtain ⟨C, hX, hbl, hbA, hN⟩ := hX
  obtain ⟨hcl, ⟨thr, hmo⟩, hrl, hLo, ⟨fo, hFo⟩⟩ := hI
  have hn12 : n ≤ 12 := hmo.2.2.2.2.1
  refine z_aload_n C dL_law_304 rfl 1 rfl ?_
  refine z_aload_n C dL_law_305 rfl 0 rfl ?_
  refine z_iload C dL_law_306 4 rfl ?_
  refine z_iconst C (nI 1) dL_law_308 (by decide) ?_
  refine z_iadd C (nI (i + 1)) dL_law_309 (nI_add i 1) ?_
  refine z_sld C hX hbl hbA (by omega) (by omega) dL_law_310 ?_
  refine z_aload_n C dL_law_311 rfl 0 rfl ?_
  refine z_iload C dL_law_312 4 rfl ?_
  refine z_iconst C (nI 2) dL_law_314 (by decide) ?_
  refine z_iadd C (nI (i + 2)) dL_law_315 (nI_add i 2) ?_
  refine z_sld C hX hbl hbA (by omega) (by omega) dL_law_316 ?_
  refine z_if_eq C 324 (xs (i + 2) = 0) Iff.rfl dL_law_317 (by decide) (fun hz => ?_) (fun hz => ?_)
  · -- false
    refine z_iconst C (nI 0) dL_law_324 (by decide) ?_
    refine z_aload_n C dL_law_325 rfl 3 rfl ?_
    refine z_callSH (As := [.ref a0, .int (xs (i + 1)), .int (nI 0), .ref o0]) (st := []) (mc := 1) (ms := 6) C (c_L_setCritical l hlst G L F (zMs m0 c0 c1 c2 c3 c4 c5 c6 o0) a0 n now sk fd o0 fo zMs_o hLo hFo hcl (xs (i + 1)) 0 (by decide)) (vx_cwSW 4 C.1.2.2.2.2 gL_law_L_setCritical rfl rfl rfl (by decide +kernel) ⟨Nat.le_of_ble_eq_true rfl, Nat.le_of_ble_eq_true rfl⟩) rfl (Nat.le_of_ble_eq_true rfl) ⟨Nat.le_trans (by omega) hce, Nat.le_trans (by omega) hsl⟩ dL_law_326 (fun E9 L9 F9 hx => hx.elim) (fun rv9 L1 F1 hp => ?_)
    obtain ⟨eL, hk1, fo1, hFo1, hd⟩ := hp
    obtain ⟨kk, hkk, erv, hd⟩ := wr2 hd
    rw [erv]
    have hL1 : ∀ b, b ∈ L → b ∈ L1 := fun b hb => eL ▸ hb
    have hmo1 := hmo.off hL1 ⟨fo, hFo⟩ hk1
    refine z_stk (st' := [.int (nI kk)]) rfl ?_
    refine z_istore (lv' := [(5, .int (nI kk)), (0, .ref b), (1, .ref a0), (2, .ref m0), (3, .ref o0), (4, .int (nI i))]) C dL_law_329 (by decide) rfl ?_
    refine z_aload_n C dL_law_331 rfl 3 rfl ?_
    refine z_aload_n C dL_law_332 rfl 1 rfl ?_
    refine z_iload C dL_law_333 5 rfl ?_
    refine z_iconst C (nI 1) dL_law_335 (by decide) ?_
    refine z_iadd C (nI (i + 1)) dL_law_336 (nI_add i 1) ?_
    refine z_sld C hX hbl hbA (by omega) (by omega) dL_law_337 ?_
    refine z_aload_n C dL_law_338 rfl 1 rfl ?_
    refine z_iload C dL_law_339 5 rfl ?_
    refine z_iconst C (nI 2) dL_law_341 (by decide) ?_
    refine z_iadd C (nI (i + 2)) dL_law_342 (nI_add i 2) ?_
    refine z_sld C hX hbl hbA (by omega) (by omega) dL_law_343 ?_
    refine z_if_eq C 351 (xs (i + 2) = 0) Iff.rfl dL_law_344 (by decide) (fun _ => ?_) (fun h9 => absurd hz h9)
    refine z_iconst C (nI 0) dL_law_351 (by decide) ?_
    refine z_callV (As := [.int (xs (i + 1)), .int (nI 0)]) (st := []) (mc := 0) (ms := 0) C hmo1.1.1 hmo1.2.1.1 rfl (c_X3_setCritical l hlst G L1 F1 m0 c0 c1 c2 c3 c4 c5 c6 n now sk thr g hmo1 (xs (i + 1)) 0 (by decide)) (cwV 2 C.1.2.2.2.2 gL_law_X3_setCritical rfl rfl rfl (by decide +kernel) ⟨Nat.le_of_ble_eq_true rfl, Nat.le_of_ble_eq_true rfl⟩) rfl (Nat.le_of_ble_eq_true rfl) ⟨Nat.le_trans (by omega) hce, Nat.le_trans (by omega) hsl⟩ dL_law_352 (fun rv9 L2 F2 hp2 => ?_)
    obtain ⟨r, er, eL2, hk2, hd2⟩ := hp2
    rw [er, eL2]
    have hag : zAg G L1 F2 a0 m0 c0 c1 c2 c3 c4 c5 c6 o0 kk fo1 r now := by
      have hkM := mKeep (o0 := o0) hk2
      rcases hd with ⟨ek, k, hk, hx, hv, hc⟩ | ⟨ek, hx, hc⟩
      · rcases hd2 with ⟨k', hx', hk', hr, hm⟩ | ⟨hx', hm⟩
        · subst ek
          have ekk : k = k' := nIe (by omega) (by omega) (hx.symm.trans hx')
          subst ekk
          exact ⟨n, now, sk, (upF fd k (fdCr 0 (fd k))), (upF g k (fdCr 0 (g k))), hc.offM hkM, hm, (hrl.up ((hrl k hk).cr 0)), fun _ => hv.trans (by rw [hr]; exact congrArg (fun z => (nI z).toInt64) ((hrl k hk).2.2.1)), (by omega)⟩
        · exact absurd (zIx_in hn12 hk hx) hx'
      · rcases hd2 with ⟨k', hx', hk', hr, hm⟩ | ⟨hx', hm⟩
        · exact absurd (zIx_in hn12 hk' hx') hx
        · subst ek
          exact ⟨n, now, sk, fd, g, hc.offM hkM, hm, hrl, fun q => absurd q (by decide), (by omega)⟩
    have hbo : kk = 0 → r = nI 0 ∨ r = nI 1 := by
      intro q
      rcases hd2 with ⟨k', hx', hk', hr, hm⟩ | ⟨hx', hm⟩
      · have h9 := (hmo1.2.2.2.1.1 k' hk').2.2.2.1
        rw [hr]
        rcases (show fCr (g k') = 0 ∨ fCr (g k') = 1 by omega) with h8 | h8 <;> rw [h8]
        · exact Or.inl rfl
        · exact Or.inr rfl
      · rcases hd with ⟨ek, k, hk, hx, hv, hc⟩ | ⟨ek, hx, hc⟩
        · exact absurd (zIx_in hn12 hk hx) hx'
        · omega
    have hFo2 := (oKeep hmo1 ⟨fo1, hFo1⟩ hk2).trans hFo1
    have hLo1 := hL1 _ hLo
    obtain ⟨n9, now9, sk9, fd9, g9, hcl9, hmo9, hrl9, hval, hnow9⟩ := hag
    refine z_stk (st' := [.int r]) rfl ?_
    refine z_istore (lv' := [(6, .int r), (5, .int (nI kk)), (0, .ref b), (1, .ref a0), (2, .ref m0), (3, .ref o0), (4, .int (nI i))]) C dL_law_355 (by decide) rfl ?_
    refine z_aload_n C dL_law_357 rfl 4 rfl ?_
    refine z_callV (As := []) (st := []) (mc := 0) (ms := 0) C hmo9.1.1 hmo9.2.1.1 rfl (c_X3_thrown l hlst G L1 F2 m0 c0 c1 c2 c3 c4 c5 c6 n9 now9 sk9 kk g9 hmo9) (cwV 0 C.1.2.2.2.2 gL_law_X3_thrown rfl rfl rfl (by decide +kernel) ⟨Nat.le_of_ble_eq_true rfl, Nat.le_of_ble_eq_true rfl⟩) rfl (Nat.le_of_ble_eq_true rfl) ⟨Nat.le_trans (by omega) hce, Nat.le_trans (by omega) hsl⟩ dL_law_358 (z_p ?_)
    refine z_stk (st' := [.int (nI kk)]) rfl ?_
    refine z_iload C dL_law_361 1 rfl ?_
    refine z_icmp_eq C 368 True ⟨fun _ => trivial, fun _ => rfl⟩ dL_law_363 (by decide) (fun _ => ?_) (fun h9 => absurd trivial h9)
    refine z_iload C dL_law_368 1 rfl ?_
    refine z_if_ne C 392 (kk = 0) (nz_iff hkk) dL_law_370 (by decide) (fun h0 => ?_) (fun h0 => ?_)
    · -- thrown
      refine z_goto C 1196 dL_law_392 (by decide) ?_
      refine z_sub (lv' := [(0, .ref b), (1, .ref a0), (2, .ref m0), (3, .ref o0), (4, .int (nI i))]) [2, 3, 4, 5, 6] rfl ?_
      refine z_wide (ce + 4) (sl + 34) (by omega) (by omega) ?_
      exact K L1 F2 n9 now9 sk9 fd9 g9 hnow9 ⟨hcl9, ⟨_, hmo9⟩, hrl9, hLo1, ⟨fo1, hFo2⟩⟩
    · -- answered
      refine z_aload_n C dL_law_373 rfl 5 rfl ?_
      refine z_iconst C (nI 0) dL_law_374 (by decide) ?_
      refine z_lald C hLo1 hFo2 (by omega) (by omega) dL_law_375 (fo1 0) rfl ?_
      rcases hbo h0 with er9 | er9
      · -- 0
        subst er9
        refine z_iload C dL_law_376 0 rfl ?_
        refine z_if_eq C 385 True ⟨fun _ => trivial, fun _ => by decide⟩ dL_law_378 (by decide) (fun _ => ?_) (fun h9 => absurd trivial h9)
        refine z_lconst C (0 : Int64) dL_law_385 (by decide) ?_
        refine z_lcmp C 0 dL_law_386 (by rw [hval h0, show (nI 0).toInt64 = (0 : Int64) by decide]; exact lg_cmp_self _) ?_
        refine z_if_eq C 392 True ⟨fun _ => trivial, fun _ => rfl⟩ dL_law_387 (by decide) (fun _ => ?_) (fun h9 => absurd trivial h9)
        refine z_goto C 1196 dL_law_392 (by decide) ?_
        refine z_sub (lv' := [(0, .ref b), (1, .ref a0), (2, .ref m0), (3, .ref o0), (4, .int (nI i))]) [2, 3, 4, 5, 6] rfl ?_
        refine z_wide (ce + 4) (sl + 34) (by omega) (by omega) ?_
        exact K L1 F2 n9 now9 sk9 fd9 g9 hnow9 ⟨hcl9, ⟨_, hmo9⟩, hrl9, hLo1, ⟨fo1, hFo2⟩⟩
      · -- 1
        subst er9
        refine z_iload C dL_law_376 0 rfl ?_
        refine z_if_eq C 385 False ⟨fun h9 => absurd h9 (by decide), fun h9 => h9.elim⟩ dL_law_378 (by decide) (fun h9 => h9.elim) (fun _ => ?_)
        refine z_lconst C (1 : Int64) dL_law_381 (by decide) ?_
        refine z_goto C 386 dL_law_382 (by decide) ?_
        refine z_lcmp C 0 dL_law_386 (by rw [hval h0, show (nI 1).toInt64 = (1 : Int64) by decide]; exact lg_cmp_self _) ?_
        refine z_if_eq C 392 True ⟨fun _ => trivial, fun _ => rfl⟩ dL_law_387 (by decide) (fun _ => ?_) (fun h9 => absurd trivial h9)
        refine z_goto C 1196 dL_law_392 (by decide) ?_
        refine z_sub (lv' := [(0, .ref b), (1, .ref a0), (2, .ref m0), (3, .ref o0), (4, .int (nI i))]) [2, 3, 4, 5, 6] rfl ?_
        refine z_wide (ce + 4) (sl + 34) (by omega) (by omega) ?_
        exact K L1 F2 n9 now9 sk9 fd9 g9 hnow9 ⟨hcl9, ⟨_, hmo9⟩, hrl9, hLo1, ⟨fo1, hFo2⟩⟩
  · -- true
    refine z_iconst C (nI 1) dL_law_320 (by decide) ?_
    refine z_goto C 325 dL_law_321 (by decide) ?_
    refine z_aload_n C dL_law_325 rfl 3 rfl ?_
    refine z_callSH (As := [.ref a0, .int (xs (i + 1)), .int (nI 1), .ref o0]) (st := []) (mc := 1) (ms := 6) C (c_L_setCritical l hlst G L F (zMs m0 c0 c1 c2 c3 c4 c5 c6 o0) a0 n now sk fd o0 fo zMs_o hLo hFo hcl (xs (i + 1)) 1 (by decide)) (vx_cwSW 4 C.1.2.2.2.2 gL_law_L_setCritical rfl rfl rfl (by decide +kernel) ⟨Nat.le_of_ble_eq_true rfl, Nat.le_of_ble_eq_true rfl⟩) rfl (Nat.le_of_ble_eq_true rfl) ⟨Nat.le_trans (by omega) hce, Nat.le_trans (by omega) hsl⟩ dL_law_326 (fun E9 L9 F9 hx => hx.elim) (fun rv9 L1 F1 hp => ?_)
    obtain ⟨eL, hk1, fo1, hFo1, hd⟩ := hp
    obtain ⟨kk, hkk, erv, hd⟩ := wr2 hd
    rw [erv]
    have hL1 : ∀ b, b ∈ L → b ∈ L1 := fun b hb => eL ▸ hb
    have hmo1 := hmo.off hL1 ⟨fo, hFo⟩ hk1
    refine z_stk (st' := [.int (nI kk)]) rfl ?_
    refine z_istore (lv' := [(5, .int (nI kk)), (0, .ref b), (1, .ref a0), (2, .ref m0), (3, .ref o0), (4, .int (nI i))]) C dL_law_329 (by decide) rfl ?_
    refine z_aload_n C dL_law_331 rfl 3 rfl ?_
    refine z_aload_n C dL_law_332 rfl 1 rfl ?_
    refine z_iload C dL_law_333 5 rfl ?_
    refine z_iconst C (nI 1) dL_law_335 (by decide) ?_
    refine z_iadd C (nI (i + 1)) dL_law_336 (nI_add i 1) ?_
    refine z_sld C hX hbl hbA (by omega) (by omega) dL_law_337 ?_
    refine z_aload_n C dL_law_338 rfl 1 rfl ?_
    refine z_iload C dL_law_339 5 rfl ?_
    refine z_iconst C (nI 2) dL_law_341 (by decide) ?_
    refine z_iadd C (nI (i + 2)) dL_law_342 (nI_add i 2) ?_
    refine z_sld C hX hbl hbA (by omega) (by omega) dL_law_343 ?_
    refine z_if_eq C 351 (xs (i + 2) = 0) Iff.rfl dL_law_344 (by decide) (fun h9 => absurd h9 hz) (fun _ => ?_)
    refine z_iconst C (nI 1) dL_law_347 (by decide) ?_
    refine z_goto C 352 dL_law_348 (by decide) ?_
    refine z_callV (As := [.int (xs (i + 1)), .int (nI 1)]) (st := []) (mc := 0) (ms := 0) C hmo1.1.1 hmo1.2.1.1 rfl (c_X3_setCritical l hlst G L1 F1 m0 c0 c1 c2 c3 c4 c5 c6 n now sk thr g hmo1 (xs (i + 1)) 1 (by decide)) (cwV 2 C.1.2.2.2.2 gL_law_X3_setCritical rfl rfl rfl (by decide +kernel) ⟨Nat.le_of_ble_eq_true rfl, Nat.le_of_ble_eq_true rfl⟩) rfl (Nat.le_of_ble_eq_true rfl) ⟨Nat.le_trans (by omega) hce, Nat.le_trans (by omega) hsl⟩ dL_law_352 (fun rv9 L2 F2 hp2 => ?_)
    obtain ⟨r, er, eL2, hk2, hd2⟩ := hp2
    rw [er, eL2]
    have hag : zAg G L1 F2 a0 m0 c0 c1 c2 c3 c4 c5 c6 o0 kk fo1 r now := by
      have hkM := mKeep (o0 := o0) hk2
      rcases hd with ⟨ek, k, hk, hx, hv, hc⟩ | ⟨ek, hx, hc⟩
      · rcases hd2 with ⟨k', hx', hk', hr, hm⟩ | ⟨hx', hm⟩
        · subst ek
          have ekk : k = k' := nIe (by omega) (by omega) (hx.symm.trans hx')
          subst ekk
          exact ⟨n, now, sk, (upF fd k (fdCr 1 (fd k))), (upF g k (fdCr 1 (g k))), hc.offM hkM, hm, (hrl.up ((hrl k hk).cr 1)), fun _ => hv.trans (by rw [hr]; exact congrArg (fun z => (nI z).toInt64) ((hrl k hk).2.2.1)), (by omega)⟩
        · exact absurd (zIx_in hn12 hk hx) hx'
      · rcases hd2 with ⟨k', hx', hk', hr, hm⟩ | ⟨hx', hm⟩
        · exact absurd (zIx_in hn12 hk' hx') hx
        · subst ek
          exact ⟨n, now, sk, fd, g, hc.offM hkM, hm, hrl, fun q => absurd q (by decide), (by omega)⟩
    have hbo : kk = 0 → r = nI 0 ∨ r = nI 1 := by
      intro q
      rcases hd2 with ⟨k', hx', hk', hr, hm⟩ | ⟨hx', hm⟩
      · have h9 := (hmo1.2.2.2.1.1 k' hk').2.2.2.1
        rw [hr]
        rcases (show fCr (g k') = 0 ∨ fCr (g k') = 1 by omega) with h8 | h8 <;> rw [h8]
        · exact Or.inl rfl
        · exact Or.inr rfl
      · rcases hd with ⟨ek, k, hk, hx, hv, hc⟩ | ⟨ek, hx, hc⟩
        · exact absurd (zIx_in hn12 hk hx) hx'
        · omega
    have hFo2 := (oKeep hmo1 ⟨fo1, hFo1⟩ hk2).trans hFo1
    have hLo1 := hL1 _ hLo
    obtain ⟨n9, now9, sk9, fd9, g9, hcl9, hmo9, hrl9, hval, hnow9⟩ := hag
    refine z_stk (st' := [.int r]) rfl ?_
    refine z_istore (lv' := [(6, .int r), (5, .int (nI kk)), (0, .ref b), (1, .ref a0), (2, .ref m0), (3, .ref o0), (4, .int (nI i))]) C dL_law_355 (by decide) rfl ?_
    refine z_aload_n C dL_law_357 rfl 4 rfl ?_
    refine z_callV (As := []) (st := []) (mc := 0) (ms := 0) C hmo9.1.1 hmo9.2.1.1 rfl (c_X3_thrown l hlst G L1 F2 m0 c0 c1 c2 c3 c4 c5 c6 n9 now9 sk9 kk g9 hmo9) (cwV 0 C.1.2.2.2.2 gL_law_X3_thrown rfl rfl rfl (by decide +kernel) ⟨Nat.le_of_ble_eq_true rfl, Nat.le_of_ble_eq_true rfl⟩) rfl (Nat.le_of_ble_eq_true rfl) ⟨Nat.le_trans (by omega) hce, Nat.le_trans (by omega) hsl⟩ dL_law_358 (z_p ?_)
    refine z_stk (st' := [.int (nI kk)]) rfl ?_
    refine z_iload C dL_law_361 1 rfl ?_
    refine z_icmp_eq C 368 True ⟨fun _ => trivial, fun _ => rfl⟩ dL_law_363 (by decide) (fun _ => ?_) (fun h9 => absurd trivial h9)
    refine z_iload C dL_law_368 1 rfl ?_
    refine z_if_ne C 392 (kk = 0) (nz_iff hkk) dL_law_370 (by decide) (fun h0 => ?_) (fun h0 => ?_)
    · -- thrown
      refine z_goto C 1196 dL_law_392 (by decide) ?_
      refine z_sub (lv' := [(0, .ref b), (1, .ref a0), (2, .ref m0), (3, .ref o0), (4, .int (nI i))]) [2, 3, 4, 5, 6] rfl ?_
      refine z_wide (ce + 4) (sl + 34) (by omega) (by omega) ?_
      exact K L1 F2 n9 now9 sk9 fd9 g9 hnow9 ⟨hcl9, ⟨_, hmo9⟩, hrl9, hLo1, ⟨fo1, hFo2⟩⟩
    · -- answered
      refine z_aload_n C dL_law_373 rfl 5 rfl ?_
      refine z_iconst C (nI 0) dL_law_374 (by decide) ?_
      refine z_lald C hLo1 hFo2 (by omega) (by omega) dL_law_375 (fo1 0) rfl ?_
      rcases hbo h0 with er9 | er9
      · -- 0
        subst er9
        refine z_iload C dL_law_376 0 rfl ?_
        refine z_if_eq C 385 True ⟨fun _ => trivial, fun _ => by decide⟩ dL_law_378 (by decide) (fun _ => ?_) (fun h9 => absurd trivial h9)
        refine z_lconst C (0 : Int64) dL_law_385 (by decide) ?_
        refine z_lcmp C 0 dL_law_386 (by rw [hval h0, show (nI 0).toInt64 = (0 : Int64) by decide]; exact lg_cmp_self _) ?_
        refine z_if_eq C 392 True ⟨fun _ => trivial, fun _ => rfl⟩ dL_law_387 (by decide) (fun _ => ?_) (fun h9 => absurd trivial h9)
        refine z_goto C 1196 dL_law_392 (by decide) ?_
        refine z_sub (lv' := [(0, .ref b), (1, .ref a0), (2, .ref m0), (3, .ref o0), (4, .int (nI i))]) [2, 3, 4, 5, 6] rfl ?_
        refine z_wide (ce + 4) (sl + 34) (by omega) (by omega) ?_
        exact K L1 F2 n9 now9 sk9 fd9 g9 hnow9 ⟨hcl9, ⟨_, hmo9⟩, hrl9, hLo1, ⟨fo1, hFo2⟩⟩
      · -- 1
        subst er9
        refine z_iload C dL_law_376 0 rfl ?_
        refine z_if_eq C 385 False ⟨fun h9 => absurd h9 (by decide), fun h9 => h9.elim⟩ dL_law_378 (by decide) (fun h9 => h9.elim) (fun _ => ?_)
        refine z_lconst C (1 : Int64) dL_law_381 (by decide) ?_
        refine z_goto C 386 dL_law_382 (by decide) ?_
        refine z_lcmp C 0 dL_law_386 (by rw [hval h0, show (nI 1).toInt64 = (1 : Int64) by decide]; exact lg_cmp_self _) ?_
        refine z_if_eq C 392 True ⟨fun _ => trivial, fun _ => rfl⟩ dL_law_387 (by decide) (fun _ => ?_) (fun h9 => absurd trivial h9)
        refine z_goto C 1196 dL_law_392 (by decide) ?_
        refine z_sub (lv' := [(0, .ref b), (1, .ref a0), (2, .ref m0), (3, .ref o0), (4, .int (nI i))]) [2, 3, 4, 5, 6] rfl ?_
        refine z_wide (ce + 4) (sl + 34) (by omega) (by omega) ?_
        exact K L1 F2 n9 now9 sk9 fd9 g9 hnow9 ⟨hcl9, ⟨_, hmo9⟩, hrl9, hLo1, ⟨fo1, hFo2⟩⟩

set_option maxHeartbeats 4000000 in
set_option maxRecDepth 100000 in
theorem lc_setSlack {p : Program} {e : Env} {s : State} {m : MethodId} {args : Array Value} {below : List Frame} {meth : Method} {c : Code} {G : zGt} {A : Nat → Prop} {Q : State → Prop} {b N i ce sl : Nat} {xs : Nat → Int32} {L : List Nat} {F : Nat → va_E} {a0 m0 c0 c1 c2 c3 c4 c5 c6 o0 n now sk : Nat} {fd g : Nat → FdT} (l : Launch) (hlst : l.stackTraces = false) (hX : zLX p l s m args meth c b N xs G A) (hi : i + 3 < N) (hI : zLI G L F a0 m0 c0 c1 c2 c3 c4 c5 c6 o0 n now sk fd g) (hn9 : now ≤ 59900) (hce : ce + 4 ≤ 601024) (hsl : sl + 34 ≤ 7293034) (K : zLK p l e s m args below meth c G A Q b i ce sl a0 m0 c0 c1 c2 c3 c4 c5 c6 o0 now) : zW p l e room_1 s m args below meth c 7 G A Q ce sl L F 395 [(0, .ref b), (1, .ref a0), (2, .ref m0), (3, .ref o0), (4, .int (nI i))] [] := by
  obtain ⟨C, hX, hbl, hbA, hN⟩ := hX
  obtain ⟨hcl, ⟨thr, hmo⟩, hrl, hLo, ⟨fo, hFo⟩⟩ := hI
  have hn12 : n ≤ 12 := hmo.2.2.2.2.1
  refine z_aload_n C dL_law_395 rfl 1 rfl ?_
  refine z_aload_n C dL_law_396 rfl 0 rfl ?_
  refine z_iload C dL_law_397 4 rfl ?_
  refine z_iconst C (nI 1) dL_law_399 (by decide) ?_
  refine z_iadd C (nI (i + 1)) dL_law_400 (nI_add i 1) ?_
  refine z_sld C hX hbl hbA (by omega) (by omega) dL_law_401 ?_
  refine z_aload_n C dL_law_402 rfl 3 rfl ?_
  refine z_callSH (As := [.ref a0, .int (xs (i + 1)), .ref o0]) (st := []) (mc := 1) (ms := 6) C (c_L_setSlack l hlst G L F (zMs m0 c0 c1 c2 c3 c4 c5 c6 o0) a0 n now sk fd o0 fo zMs_o hLo hFo hcl (xs (i + 1))) (vx_cwSW 3 C.1.2.2.2.2 gL_law_L_setSlack rfl rfl rfl (by decide +kernel) ⟨Nat.le_of_ble_eq_true rfl, Nat.le_of_ble_eq_true rfl⟩) rfl (Nat.le_of_ble_eq_true rfl) ⟨Nat.le_trans (by omega) hce, Nat.le_trans (by omega) hsl⟩ dL_law_403 (fun E9 L9 F9 hx => hx.elim) (fun rv9 L1 F1 hp => ?_)
  obtain ⟨eL, hk1, fo1, hFo1, hd⟩ := hp
  obtain ⟨kk, hkk, erv, hd⟩ := wr2 hd
  rw [erv]
  have hL1 : ∀ b, b ∈ L → b ∈ L1 := fun b hb => eL ▸ hb
  have hmo1 := hmo.off hL1 ⟨fo, hFo⟩ hk1
  refine z_stk (st' := [.int (nI kk)]) rfl ?_
  refine z_istore (lv' := [(5, .int (nI kk)), (0, .ref b), (1, .ref a0), (2, .ref m0), (3, .ref o0), (4, .int (nI i))]) C dL_law_406 (by decide) rfl ?_
  refine z_aload_n C dL_law_408 rfl 3 rfl ?_
  refine z_aload_n C dL_law_409 rfl 1 rfl ?_
  refine z_iload C dL_law_410 5 rfl ?_
  refine z_iconst C (nI 1) dL_law_412 (by decide) ?_
  refine z_iadd C (nI (i + 1)) dL_law_413 (nI_add i 1) ?_
  refine z_sld C hX hbl hbA (by omega) (by omega) dL_law_414 ?_
  refine z_callV (As := [.int (xs (i + 1))]) (st := []) (mc := 0) (ms := 0) C hmo1.1.1 hmo1.2.1.1 rfl (c_X3_setSlack l hlst G L1 F1 m0 c0 c1 c2 c3 c4 c5 c6 n now sk thr g hmo1 (xs (i + 1))) (cwV 1 C.1.2.2.2.2 gL_law_X3_setSlack rfl rfl rfl (by decide +kernel) ⟨Nat.le_of_ble_eq_true rfl, Nat.le_of_ble_eq_true rfl⟩) rfl (Nat.le_of_ble_eq_true rfl) ⟨Nat.le_trans (by omega) hce, Nat.le_trans (by omega) hsl⟩ dL_law_415 (fun rv9 L2 F2 hp2 => ?_)
  obtain ⟨r, er, eL2, hk2, hd2⟩ := hp2
  rw [er, eL2]
  have hag : zAg G L1 F2 a0 m0 c0 c1 c2 c3 c4 c5 c6 o0 kk fo1 r now := by
    have hkM := mKeep (o0 := o0) hk2
    rcases hd with ⟨ek, j, hj, h1, hv, hc⟩ | ⟨ek, hj, hc⟩
    · rcases hd2 with ⟨j', hj', h1', hr, hm⟩ | ⟨hj', hm⟩
      · subst ek
        have ej : j = j' := nIe (by omega) (by omega) (hj.symm.trans hj')
        subst ej
        exact ⟨n, now, j, fd, g, hc.offM hkM, hm, hrl, fun _ => hv.trans (by rw [hr]), (by omega)⟩
      · exact absurd (zIn_in (by decide) (Nat.zero_le _) h1 hj) hj'
    · rcases hd2 with ⟨j', hj', h1', hr, hm⟩ | ⟨hj', hm⟩
      · exact absurd (zIn_in (by decide) (Nat.zero_le _) h1' hj') hj
      · subst ek
        exact ⟨n, now, sk, fd, g, hc.offM hkM, hm, hrl, fun q => absurd q (by decide), (by omega)⟩
  have hFo2 := (oKeep hmo1 ⟨fo1, hFo1⟩ hk2).trans hFo1
  have hLo1 := hL1 _ hLo
  obtain ⟨n9, now9, sk9, fd9, g9, hcl9, hmo9, hrl9, hval, hnow9⟩ := hag
  refine z_stk (st' := [.int r]) rfl ?_
  refine z_istore (lv' := [(6, .int r), (5, .int (nI kk)), (0, .ref b), (1, .ref a0), (2, .ref m0), (3, .ref o0), (4, .int (nI i))]) C dL_law_418 (by decide) rfl ?_
  refine z_aload_n C dL_law_420 rfl 4 rfl ?_
  refine z_callV (As := []) (st := []) (mc := 0) (ms := 0) C hmo9.1.1 hmo9.2.1.1 rfl (c_X3_thrown l hlst G L1 F2 m0 c0 c1 c2 c3 c4 c5 c6 n9 now9 sk9 kk g9 hmo9) (cwV 0 C.1.2.2.2.2 gL_law_X3_thrown rfl rfl rfl (by decide +kernel) ⟨Nat.le_of_ble_eq_true rfl, Nat.le_of_ble_eq_true rfl⟩) rfl (Nat.le_of_ble_eq_true rfl) ⟨Nat.le_trans (by omega) hce, Nat.le_trans (by omega) hsl⟩ dL_law_421 (z_p ?_)
  refine z_stk (st' := [.int (nI kk)]) rfl ?_
  refine z_iload C dL_law_424 1 rfl ?_
  refine z_icmp_eq C 431 True ⟨fun _ => trivial, fun _ => rfl⟩ dL_law_426 (by decide) (fun _ => ?_) (fun h9 => absurd trivial h9)
  refine z_iload C dL_law_431 1 rfl ?_
  refine z_if_ne C 448 (kk = 0) (nz_iff hkk) dL_law_433 (by decide) (fun h0 => ?_) (fun h0 => ?_)
  · -- thrown
    refine z_goto C 1196 dL_law_448 (by decide) ?_
    refine z_sub (lv' := [(0, .ref b), (1, .ref a0), (2, .ref m0), (3, .ref o0), (4, .int (nI i))]) [2, 3, 4, 5, 6] rfl ?_
    refine z_wide (ce + 4) (sl + 34) (by omega) (by omega) ?_
    exact K L1 F2 n9 now9 sk9 fd9 g9 hnow9 ⟨hcl9, ⟨_, hmo9⟩, hrl9, hLo1, ⟨fo1, hFo2⟩⟩
  · -- answered
    refine z_aload_n C dL_law_436 rfl 5 rfl ?_
    refine z_iconst C (nI 0) dL_law_437 (by decide) ?_
    refine z_lald C hLo1 hFo2 (by omega) (by omega) dL_law_438 (fo1 0) rfl ?_
    refine z_iload C dL_law_439 0 rfl ?_
    refine z_i2l C (r.toInt64) dL_law_441 rfl ?_
    refine z_lcmp C 0 dL_law_442 (by rw [hval h0]; exact lg_cmp_self _) ?_
    refine z_if_eq C 448 True ⟨fun _ => trivial, fun _ => rfl⟩ dL_law_443 (by decide) (fun _ => ?_) (fun h9 => absurd trivial h9)
    refine z_goto C 1196 dL_law_448 (by decide) ?_
    refine z_sub (lv' := [(0, .ref b), (1, .ref a0), (2, .ref m0), (3, .ref o0), (4, .int (nI i))]) [2, 3, 4, 5, 6] rfl ?_
    refine z_wide (ce + 4) (sl + 34) (by omega) (by omega) ?_
    exact K L1 F2 n9 now9 sk9 fd9 g9 hnow9 ⟨hcl9, ⟨_, hmo9⟩, hrl9, hLo1, ⟨fo1, hFo2⟩⟩
