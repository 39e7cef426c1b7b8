set_option maxHeartbeats 4000000 in
set_option maxRecDepth 100000 in
theorem lc_pass {p : Program} {e : Env} {s : State} {m : MethodId} {args : Array Value} {below : List Frame} {meth : Method} {c : Code} {G : zGt} {A : Nat → Prop} {Q : State → Prop} {b N i ce sl : Nat} {xs : Nat → Int32} {L : List Nat} {F : Nat → va_E} {a0 m0 c0 c1 c2 c3 c4 c5 c6 o0 n now sk : Nat} {fd g : Nat → FdT} (l : Launch) (hlst : l.stackTraces = false) (hX : zLX p l s m args meth c b N xs G A) (hi : i + 3 < N) (hI : zLI G L F a0 m0 c0 c1 c2 c3 c4 c5 c6 o0 n now sk fd g) (hn9 : now ≤ 59900) (hce : ce + 4 ≤ 601024) (hsl : sl + 34 ≤ 7293034) (K : zLK p l e s m args below meth c G A Q b i ce sl a0 m0 c0 c1 c2 c3 c4 c5 c6 o0 now) : zW p l e room_1 s m args below meth c 7 G A Q ce sl L F 451 [(0, .ref b), (1, .ref a0), (2, .ref m0), (3, .ref o0), (4, .int (nI i))] [] := by
  obtain ⟨C, hX, hbl, hbA, hN⟩ := hX
  obtain ⟨hcl, ⟨thr, hmo⟩, hrl, hLo, ⟨fo, hFo⟩⟩ := hI
  have hn12 : n ≤ 12 := hmo.2.2.2.2.1
  refine z_aload_n C dL_law_451 rfl 1 rfl ?_
  refine z_aload_n C dL_law_452 rfl 0 rfl ?_
  refine z_iload C dL_law_453 4 rfl ?_
  refine z_iconst C (nI 1) dL_law_455 (by decide) ?_
  refine z_iadd C (nI (i + 1)) dL_law_456 (nI_add i 1) ?_
  refine z_sld C hX hbl hbA (by omega) (by omega) dL_law_457 ?_
  refine z_aload_n C dL_law_458 rfl 3 rfl ?_
  refine z_callSH (As := [.ref a0, .int (xs (i + 1)), .ref o0]) (st := []) (mc := 1) (ms := 6) C (c_L_pass l hlst G L F (zMs m0 c0 c1 c2 c3 c4 c5 c6 o0) a0 n now sk fd o0 fo zMs_o hLo hFo hcl (xs (i + 1)) hn9) (vx_cwSW 3 C.1.2.2.2.2 gL_law_L_pass rfl rfl rfl (by decide +kernel) ⟨Nat.le_of_ble_eq_true rfl, Nat.le_of_ble_eq_true rfl⟩) rfl (Nat.le_of_ble_eq_true rfl) ⟨Nat.le_trans (by omega) hce, Nat.le_trans (by omega) hsl⟩ dL_law_459 (fun E9 L9 F9 hx => hx.elim) (fun rv9 L1 F1 hp => ?_)
  obtain ⟨eL, hk1, fo1, hFo1, hd⟩ := hp
  obtain ⟨kk, hkk, erv, hd⟩ := wr2 hd
  rw [erv]
  have hL1 : ∀ b, b ∈ L → b ∈ L1 := fun b hb => eL ▸ hb
  have hmo1 := hmo.off hL1 ⟨fo, hFo⟩ hk1
  refine z_stk (st' := [.int (nI kk)]) rfl ?_
  refine z_istore (lv' := [(5, .int (nI kk)), (0, .ref b), (1, .ref a0), (2, .ref m0), (3, .ref o0), (4, .int (nI i))]) C dL_law_462 (by decide) rfl ?_
  refine z_aload_n C dL_law_464 rfl 3 rfl ?_
  refine z_aload_n C dL_law_465 rfl 1 rfl ?_
  refine z_iload C dL_law_466 5 rfl ?_
  refine z_iconst C (nI 1) dL_law_468 (by decide) ?_
  refine z_iadd C (nI (i + 1)) dL_law_469 (nI_add i 1) ?_
  refine z_sld C hX hbl hbA (by omega) (by omega) dL_law_470 ?_
  refine z_callV (As := [.int (xs (i + 1))]) (st := []) (mc := 0) (ms := 0) C hmo1.1.1 hmo1.2.1.1 rfl (c_X3_pass l hlst G L1 F1 m0 c0 c1 c2 c3 c4 c5 c6 n now sk thr g hmo1 (xs (i + 1)) hn9) (cwV 1 C.1.2.2.2.2 gL_law_X3_pass rfl rfl rfl (by decide +kernel) ⟨Nat.le_of_ble_eq_true rfl, Nat.le_of_ble_eq_true rfl⟩) rfl (Nat.le_of_ble_eq_true rfl) ⟨Nat.le_trans (by omega) hce, Nat.le_trans (by omega) hsl⟩ dL_law_471 (fun rv9 L2 F2 hp2 => ?_)
  obtain ⟨r, er, eL2, hk2, hd2⟩ := hp2
  rw [er, eL2]
  have hag : zAg G L1 F2 a0 m0 c0 c1 c2 c3 c4 c5 c6 o0 kk fo1 r now := by
    have hkM := mKeep (o0 := o0) hk2
    rcases hd with ⟨ek, ps, hj, h1, h2, hv, hc⟩ | ⟨ek, hj, hc⟩
    · rcases hd2 with ⟨ps', hj', h1', h2', hr, hm⟩ | ⟨hj', hm⟩
      · subst ek
        have eps : ps = ps' := nIe (by omega) (by omega) (hj.symm.trans hj')
        subst eps
        exact ⟨n, (now + ps), sk, (fdK (fun _ r => fPs ps r) fd n), (fdK (fun _ r => fPs ps r) g n), hc.offM hkM, hm, (fRl.K (fun k hk => (hrl k hk).ps ps)), fun _ => hv.trans (by rw [hr]), (by omega)⟩
      · exact absurd (zIn_in (by decide) h1 h2 hj) hj'
    · rcases hd2 with ⟨ps', hj', h1', h2', hr, hm⟩ | ⟨hj', hm⟩
      · exact absurd (zIn_in (by decide) h1' h2' hj') hj
      · subst ek
        exact ⟨n, now, sk, fd, g, hc.offM hkM, hm, hrl, fun q => absurd q (by decide), (by omega)⟩
  have hFo2 := (oKeep hmo1 ⟨fo1, hFo1⟩ hk2).trans hFo1
  have hLo1 := hL1 _ hLo
  obtain ⟨n9, now9, sk9, fd9, g9, hcl9, hmo9, hrl9, hval, hnow9⟩ := hag
  refine z_stk (st' := [.int r]) rfl ?_
  refine z_istore (lv' := [(6, .int r), (5, .int (nI kk)), (0, .ref b), (1, .ref a0), (2, .ref m0), (3, .ref o0), (4, .int (nI i))]) C dL_law_474 (by decide) rfl ?_
  refine z_aload_n C dL_law_476 rfl 4 rfl ?_
  refine z_callV (As := []) (st := []) (mc := 0) (ms := 0) C hmo9.1.1 hmo9.2.1.1 rfl (c_X3_thrown l hlst G L1 F2 m0 c0 c1 c2 c3 c4 c5 c6 n9 now9 sk9 kk g9 hmo9) (cwV 0 C.1.2.2.2.2 gL_law_X3_thrown rfl rfl rfl (by decide +kernel) ⟨Nat.le_of_ble_eq_true rfl, Nat.le_of_ble_eq_true rfl⟩) rfl (Nat.le_of_ble_eq_true rfl) ⟨Nat.le_trans (by omega) hce, Nat.le_trans (by omega) hsl⟩ dL_law_477 (z_p ?_)
  refine z_stk (st' := [.int (nI kk)]) rfl ?_
  refine z_iload C dL_law_480 1 rfl ?_
  refine z_icmp_eq C 487 True ⟨fun _ => trivial, fun _ => rfl⟩ dL_law_482 (by decide) (fun _ => ?_) (fun h9 => absurd trivial h9)
  refine z_iload C dL_law_487 1 rfl ?_
  refine z_if_ne C 504 (kk = 0) (nz_iff hkk) dL_law_489 (by decide) (fun h0 => ?_) (fun h0 => ?_)
  · -- thrown
    refine z_goto C 1196 dL_law_504 (by decide) ?_
    refine z_sub (lv' := [(0, .ref b), (1, .ref a0), (2, .ref m0), (3, .ref o0), (4, .int (nI i))]) [2, 3, 4, 5, 6] rfl ?_
    refine z_wide (ce + 4) (sl + 34) (by omega) (by omega) ?_
    exact K L1 F2 n9 now9 sk9 fd9 g9 hnow9 ⟨hcl9, ⟨_, hmo9⟩, hrl9, hLo1, ⟨fo1, hFo2⟩⟩
  · -- answered
    refine z_aload_n C dL_law_492 rfl 5 rfl ?_
    refine z_iconst C (nI 0) dL_law_493 (by decide) ?_
    refine z_lald C hLo1 hFo2 (by omega) (by omega) dL_law_494 (fo1 0) rfl ?_
    refine z_iload C dL_law_495 0 rfl ?_
    refine z_i2l C (r.toInt64) dL_law_497 rfl ?_
    refine z_lcmp C 0 dL_law_498 (by rw [hval h0]; exact lg_cmp_self _) ?_
    refine z_if_eq C 504 True ⟨fun _ => trivial, fun _ => rfl⟩ dL_law_499 (by decide) (fun _ => ?_) (fun h9 => absurd trivial h9)
    refine z_goto C 1196 dL_law_504 (by decide) ?_
    refine z_sub (lv' := [(0, .ref b), (1, .ref a0), (2, .ref m0), (3, .ref o0), (4, .int (nI i))]) [2, 3, 4, 5, 6] rfl ?_
    refine z_wide (ce + 4) (sl + 34) (by omega) (by omega) ?_
    exact K L1 F2 n9 now9 sk9 fd9 g9 hnow9 ⟨hcl9, ⟨_, hmo9⟩, hrl9, hLo1, ⟨fo1, hFo2⟩⟩

set_option maxHeartbeats 4000000 in
set_option maxRecDepth 100000 in
theorem lc_relieve {p : Program} {e : Env} {s : State} {m : MethodId} {args : Array Value} {below : List Frame} {meth : Method} {c : Code} {G : zGt} {A : Nat → Prop} {Q : State → Prop} {b N i ce sl : Nat} {xs : Nat → Int32} {L : List Nat} {F : Nat → va_E} {a0 m0 c0 c1 c2 c3 c4 c5 c6 o0 n now sk : Nat} {fd g : Nat → FdT} (l : Launch) (hlst : l.stackTraces = false) (hX : zLX p l s m args meth c b N xs G A) (hi : i + 3 < N) (hI : zLI G L F a0 m0 c0 c1 c2 c3 c4 c5 c6 o0 n now sk fd g) (hn9 : now ≤ 59900) (hce : ce + 4 ≤ 601024) (hsl : sl + 34 ≤ 7293034) (K : zLK p l e s m args below meth c G A Q b i ce sl a0 m0 c0 c1 c2 c3 c4 c5 c6 o0 now) : zW p l e room_1 s m args below meth c 7 G A Q ce sl L F 507 [(0, .ref b), (1, .ref a0), (2, .ref m0), (3, .ref o0), (4, .int (nI i))] [] := by
  obtain ⟨C, hX, hbl, hbA, hN⟩ := hX
  obtain ⟨hcl, ⟨thr, hmo⟩, hrl, hLo, ⟨fo, hFo⟩⟩ := hI
  have hn12 : n ≤ 12 := hmo.2.2.2.2.1
  refine z_aload_n C dL_law_507 rfl 1 rfl ?_
  refine z_aload_n C dL_law_508 rfl 0 rfl ?_
  refine z_iload C dL_law_509 4 rfl ?_
  refine z_iconst C (nI 1) dL_law_511 (by decide) ?_
  refine z_iadd C (nI (i + 1)) dL_law_512 (nI_add i 1) ?_
  refine z_sld C hX hbl hbA (by omega) (by omega) dL_law_513 ?_
  refine z_aload_n C dL_law_514 rfl 3 rfl ?_
  refine z_callSH (As := [.ref a0, .int (xs (i + 1)), .ref o0]) (st := []) (mc := 2) (ms := 12) C (c_L_relieve l hlst G L F (zMs m0 c0 c1 c2 c3 c4 c5 c6 o0) a0 n now sk fd o0 fo zMs_o hLo hFo hcl (xs (i + 1))) (vx_cwSW 3 C.1.2.2.2.2 gL_law_L_relieve rfl rfl rfl (by decide +kernel) ⟨Nat.le_of_ble_eq_true rfl, Nat.le_of_ble_eq_true rfl⟩) rfl (Nat.le_of_ble_eq_true rfl) ⟨Nat.le_trans (by omega) hce, Nat.le_trans (by omega) hsl⟩ dL_law_515 (fun E9 L9 F9 hx => hx.elim) (fun rv9 L1 F1 hp => ?_)
  obtain ⟨eL, hk1, fo1, hFo1, hd⟩ := hp
  obtain ⟨kk, hkk, erv, hd⟩ := wr3 hd
  rw [erv]
  have hL1 : ∀ b, b ∈ L → b ∈ L1 := fun b hb => eL ▸ hb
  have hmo1 := hmo.off hL1 ⟨fo, hFo⟩ hk1
  refine z_stk (st' := [.int (nI kk)]) rfl ?_
  refine z_istore (lv' := [(5, .int (nI kk)), (0, .ref b), (1, .ref a0), (2, .ref m0), (3, .ref o0), (4, .int (nI i))]) C dL_law_518 (by decide) rfl ?_
  refine z_aload_n C dL_law_520 rfl 3 rfl ?_
  refine z_aload_n C dL_law_521 rfl 1 rfl ?_
  refine z_iload C dL_law_522 5 rfl ?_
  refine z_iconst C (nI 1) dL_law_524 (by decide) ?_
  refine z_iadd C (nI (i + 1)) dL_law_525 (nI_add i 1) ?_
  refine z_sld C hX hbl hbA (by omega) (by omega) dL_law_526 ?_
  refine z_callV (As := [.int (xs (i + 1))]) (st := []) (mc := 0) (ms := 0) C hmo1.1.1 hmo1.2.1.1 rfl (c_X3_relieve l hlst G L1 F1 m0 c0 c1 c2 c3 c4 c5 c6 n now sk thr g hmo1 (xs (i + 1))) (cwV 1 C.1.2.2.2.2 gL_law_X3_relieve rfl rfl rfl (by decide +kernel) ⟨Nat.le_of_ble_eq_true rfl, Nat.le_of_ble_eq_true rfl⟩) rfl (Nat.le_of_ble_eq_true rfl) ⟨Nat.le_trans (by omega) hce, Nat.le_trans (by omega) hsl⟩ dL_law_527 (fun rv9 L2 F2 hp2 => ?_)
  obtain ⟨r, er, eL2, hk2, hd2⟩ := hp2
  rw [er, eL2]
  have hag : zAg G L1 F2 a0 m0 c0 c1 c2 c3 c4 c5 c6 o0 kk fo1 r now := by
    have hkM := mKeep (o0 := o0) hk2
    rcases hd with ⟨ek, sf, b1, hj, h1, h2, hB, hb0, hv, hc⟩ | ⟨ek, hj, hc⟩ | ⟨ek, ⟨sf, hj, h1, h2, hB⟩, hc⟩
    · rcases hd2 with ⟨sf', b1', hj', h1', h2', hB', hb0', hr, hm⟩ | ⟨hj', hm⟩ | ⟨sf', hj', h1', h2', hB', hm⟩
      · subst ek
        have esf : sf = sf' := nIe (by omega) (by omega) (hj.symm.trans hj')
        subst esf
        have ebb : b1 = b1' := isB_one hn12 h1 (hrl.B hB) hB'
        subst ebb
        exact ⟨n, now, sk, (fdK (fun i r => reG b1 i r) fd n), (fdK (fun i r => reG b1 i r) g n), hc.offM hkM, hm, (fRl.K (fun k hk => (hrl k hk).rG b1 k)), fun _ => hv.trans (by rw [hr]; exact congrArg (fun z => (nI z).toInt64) (smV_cong (fun j hj => (hrl j hj).rT b1 j))), (by omega)⟩
      · exact absurd (zIn_in (by decide) h1 h2 hj) hj'
      · have esf : sf = sf' := nIe (by omega) (by omega) (hj.symm.trans hj')
        subst esf
        exact absurd (isB_one hn12 h1 (hrl.B hB) hB') hb0
    · rcases hd2 with ⟨sf', b1', hj', h1', h2', hB', hb0', hr, hm⟩ | ⟨hj', hm⟩ | ⟨sf', hj', h1', h2', hB', hm⟩
      · exact absurd (zIn_in (by decide) h1' h2' hj') hj
      · subst ek
        exact ⟨n, now, sk, fd, g, hc.offM hkM, hm, hrl, fun q => absurd q (by decide), (by omega)⟩
      · exact absurd (zIn_in (by decide) h1' h2' hj') hj
    · rcases hd2 with ⟨sf', b1', hj', h1', h2', hB', hb0', hr, hm⟩ | ⟨hj', hm⟩ | ⟨sf', hj', h1', h2', hB', hm⟩
      · have esf : sf = sf' := nIe (by omega) (by omega) (hj.symm.trans hj')
        subst esf
        exact absurd (isB_one hn12 h1 hB' (hrl.B hB)) hb0'
      · exact absurd (zIn_in (by decide) h1 h2 hj) hj'
      · subst ek
        exact ⟨n, now, sk, fd, g, hc.offM hkM, hm, hrl, fun q => absurd q (by decide), (by omega)⟩
  have hFo2 := (oKeep hmo1 ⟨fo1, hFo1⟩ hk2).trans hFo1
  have hLo1 := hL1 _ hLo
  obtain ⟨n9, now9, sk9, fd9, g9, hcl9, hmo9, hrl9, hval, hnow9⟩ := hag
  refine z_stk (st' := [.int r]) rfl ?_
  refine z_istore (lv' := [(6, .int r), (5, .int (nI kk)), (0, .ref b), (1, .ref a0), (2, .ref m0), (3, .ref o0), (4, .int (nI i))]) C dL_law_530 (by decide) rfl ?_
  refine z_aload_n C dL_law_532 rfl 4 rfl ?_
  refine z_callV (As := []) (st := []) (mc := 0) (ms := 0) C hmo9.1.1 hmo9.2.1.1 rfl (c_X3_thrown l hlst G L1 F2 m0 c0 c1 c2 c3 c4 c5 c6 n9 now9 sk9 kk g9 hmo9) (cwV 0 C.1.2.2.2.2 gL_law_X3_thrown rfl rfl rfl (by decide +kernel) ⟨Nat.le_of_ble_eq_true rfl, Nat.le_of_ble_eq_true rfl⟩) rfl (Nat.le_of_ble_eq_true rfl) ⟨Nat.le_trans (by omega) hce, Nat.le_trans (by omega) hsl⟩ dL_law_533 (z_p ?_)
  refine z_stk (st' := [.int (nI kk)]) rfl ?_
  refine z_iload C dL_law_536 1 rfl ?_
  refine z_icmp_eq C 543 True ⟨fun _ => trivial, fun _ => rfl⟩ dL_law_538 (by decide) (fun _ => ?_) (fun h9 => absurd trivial h9)
  refine z_iload C dL_law_543 1 rfl ?_
  refine z_if_ne C 560 (kk = 0) (nz_iff hkk) dL_law_545 (by decide) (fun h0 => ?_) (fun h0 => ?_)
  · -- thrown
    refine z_goto C 1196 dL_law_560 (by decide) ?_
    refine z_sub (lv' := [(0, .ref b), (1, .ref a0), (2, .ref m0), (3, .ref o0), (4, .int (nI i))]) [2, 3, 4, 5, 6] rfl ?_
    refine z_wide (ce + 4) (sl + 34) (by omega) (by omega) ?_
    exact K L1 F2 n9 now9 sk9 fd9 g9 hnow9 ⟨hcl9, ⟨_, hmo9⟩, hrl9, hLo1, ⟨fo1, hFo2⟩⟩
  · -- answered
    refine z_aload_n C dL_law_548 rfl 5 rfl ?_
    refine z_iconst C (nI 0) dL_law_549 (by decide) ?_
    refine z_lald C hLo1 hFo2 (by omega) (by omega) dL_law_550 (fo1 0) rfl ?_
    refine z_iload C dL_law_551 0 rfl ?_
    refine z_i2l C (r.toInt64) dL_law_553 rfl ?_
    refine z_lcmp C 0 dL_law_554 (by rw [hval h0]; exact lg_cmp_self _) ?_
    refine z_if_eq C 560 True ⟨fun _ => trivial, fun _ => rfl⟩ dL_law_555 (by decide) (fun _ => ?_) (fun h9 => absurd trivial h9)
    refine z_goto C 1196 dL_law_560 (by decide) ?_
    refine z_sub (lv' := [(0, .ref b), (1, .ref a0), (2, .ref m0), (3, .ref o0), (4, .int (nI i))]) [2, 3, 4, 5, 6] rfl ?_
    refine z_wide (ce + 4) (sl + 34) (by omega) (by omega) ?_
    exact K L1 F2 n9 now9 sk9 fd9 g9 hnow9 ⟨hcl9, ⟨_, hmo9⟩, hrl9, hLo1, ⟨fo1, hFo2⟩⟩

set_option maxHeartbeats 4000000 in
set_option maxRecDepth 100000 in
theorem lc_rotate {p : Program} {e : Env} {s : State} {m : MethodId} {args : Array Value} {below : List Frame} {meth : Method} {c : Code} {G : zGt} {A : Nat → Prop} {Q : State → Prop} {b N i ce sl : Nat} {xs : Nat → Int32} {L : List Nat} {F : Nat → va_E} {a0 m0 c0 c1 c2 c3 c4 c5 c6 o0 n now sk : Nat} {fd g : Nat → FdT} (l : Launch) (hlst : l.stackTraces = false) (hX : zLX p l s m args meth c b N xs G A) (hi : i + 3 < N) (hI : zLI G L F a0 m0 c0 c1 c2 c3 c4 c5 c6 o0 n now sk fd g) (hn9 : now ≤ 59900) (hce : ce + 4 ≤ 601024) (hsl : sl + 34 ≤ 7293034) (K : zLK p l e s m args below meth c G A Q b i ce sl a0 m0 c0 c1 c2 c3 c4 c5 c6 o0 now) : zW p l e room_1 s m args below meth c 7 G A Q ce sl L F 563 [(0, .ref b), (1, .ref a0), (2, .ref m0), (3, .ref o0), (4, .int (nI i))] [] := by
  obtain ⟨C, hX, hbl, hbA, hN⟩ := hX
  obtain ⟨hcl, ⟨thr, hmo⟩, hrl, hLo, ⟨fo, hFo⟩⟩ := hI
  have hn12 : n ≤ 12 := hmo.2.2.2.2.1
  refine z_aload_n C dL_law_563 rfl 1 rfl ?_
  refine z_aload_n C dL_law_564 rfl 3 rfl ?_
  refine z_callSH (As := [.ref a0, .ref o0]) (st := []) (mc := 1) (ms := 6) C (c_L_rotate l hlst G L F (zMs m0 c0 c1 c2 c3 c4 c5 c6 o0) a0 n now sk fd o0 fo zMs_o hLo hFo hcl ) (vx_cwSW 2 C.1.2.2.2.2 gL_law_L_rotate rfl rfl rfl (by decide +kernel) ⟨Nat.le_of_ble_eq_true rfl, Nat.le_of_ble_eq_true rfl⟩) rfl (Nat.le_of_ble_eq_true rfl) ⟨Nat.le_trans (by omega) hce, Nat.le_trans (by omega) hsl⟩ dL_law_565 (fun E9 L9 F9 hx => hx.elim) (fun rv9 L1 F1 hp => ?_)
  obtain ⟨eL, hk1, fo1, hFo1, hd⟩ := hp
  obtain ⟨kk, hkk, erv, hd⟩ := wr3 hd
  rw [erv]
  have hL1 : ∀ b, b ∈ L → b ∈ L1 := fun b hb => eL ▸ hb
  have hmo1 := hmo.off hL1 ⟨fo, hFo⟩ hk1
  refine z_stk (st' := [.int (nI kk)]) rfl ?_
  refine z_istore (lv' := [(5, .int (nI kk)), (0, .ref b), (1, .ref a0), (2, .ref m0), (3, .ref o0), (4, .int (nI i))]) C dL_law_568 (by decide) rfl ?_
  refine z_aload_n C dL_law_570 rfl 3 rfl ?_
  refine z_callV (As := []) (st := []) (mc := 0) (ms := 0) C hmo1.1.1 hmo1.2.1.1 rfl (c_X3_rotate l hlst G L1 F1 m0 c0 c1 c2 c3 c4 c5 c6 n now sk thr g hmo1 ) (cwV 0 C.1.2.2.2.2 gL_law_X3_rotate rfl rfl rfl (by decide +kernel) ⟨Nat.le_of_ble_eq_true rfl, Nat.le_of_ble_eq_true rfl⟩) rfl (Nat.le_of_ble_eq_true rfl) ⟨Nat.le_trans (by omega) hce, Nat.le_trans (by omega) hsl⟩ dL_law_571 (fun rv9 L2 F2 hp2 => ?_)
  obtain ⟨r, er, eL2, hk2, hd2⟩ := hp2
  rw [er, eL2]
  have hag : zAg G L1 F2 a0 m0 c0 c1 c2 c3 c4 c5 c6 o0 kk fo1 r now := by
    have eRS : smV (fun j => rtV (fd j)) n = smV (fun j => rtV (g j)) n := hrl.sm (f := rtV) (fun a b h => h.rt)
    have eSW := rt_sw (g := g) hmo1.2.2.2.1.1
    have hkM := mKeep (o0 := o0) hk2
    rcases hd with ⟨ek, b1, h0, hB, hb0, hv, hc⟩ | ⟨ek, h0, hc⟩ | ⟨ek, ⟨h0, hB⟩, hc⟩
    · rcases hd2 with ⟨h0', hm⟩ | ⟨h0', hB', hm⟩ | ⟨b1', h0', hB', hb0', hr, hm⟩
      · exfalso; omega
      · have hB9 := hrl.B hB
        rw [eRS] at hB9
        exact absurd (isB_one hn12 (by omega) hB9 hB') hb0
      · subst ek
        have hB9 := hrl.B hB
        rw [eRS] at hB9
        have ebb : b1 = b1' := isB_one hn12 (by omega) hB9 hB'
        subst ebb
        exact ⟨n, now, sk, (fdK (fun i r => swG b1 i r) fd n), (fdK (fun i r => bbG (ouV g n) i r) (fdK (fun i r => reG b1 i r) g n) n), hc.offM hkM, hm, (hrl.rot hB'), fun _ => hv.trans (by rw [hr]; exact congrArg (fun z => (nI z).toInt64) (hrl.sm (f := swT) (fun a b h => h.sw))), (by omega)⟩
    · rcases hd2 with ⟨h0', hm⟩ | ⟨h0', hB', hm⟩ | ⟨b1', h0', hB', hb0', hr, hm⟩
      · subst ek
        exact ⟨n, now, sk, fd, g, hc.offM hkM, hm, hrl, fun q => absurd q (by decide), (by omega)⟩
      · exfalso; omega
      · exfalso; omega
    · rcases hd2 with ⟨h0', hm⟩ | ⟨h0', hB', hm⟩ | ⟨b1', h0', hB', hb0', hr, hm⟩
      · exfalso; omega
      · subst ek
        exact ⟨n, now, sk, fd, g, hc.offM hkM, hm, hrl, fun q => absurd q (by decide), (by omega)⟩
      · have hB9 := hrl.B hB
        rw [eRS] at hB9
        exact absurd (isB_one hn12 (by omega) hB' hB9) hb0'
  have hFo2 := (oKeep hmo1 ⟨fo1, hFo1⟩ hk2).trans hFo1
  have hLo1 := hL1 _ hLo
  obtain ⟨n9, now9, sk9, fd9, g9, hcl9, hmo9, hrl9, hval, hnow9⟩ := hag
  refine z_stk (st' := [.int r]) rfl ?_
  refine z_istore (lv' := [(6, .int r), (5, .int (nI kk)), (0, .ref b), (1, .ref a0), (2, .ref m0), (3, .ref o0), (4, .int (nI i))]) C dL_law_574 (by decide) rfl ?_
  refine z_aload_n C dL_law_576 rfl 4 rfl ?_
  refine z_callV (As := []) (st := []) (mc := 0) (ms := 0) C hmo9.1.1 hmo9.2.1.1 rfl (c_X3_thrown l hlst G L1 F2 m0 c0 c1 c2 c3 c4 c5 c6 n9 now9 sk9 kk g9 hmo9) (cwV 0 C.1.2.2.2.2 gL_law_X3_thrown rfl rfl rfl (by decide +kernel) ⟨Nat.le_of_ble_eq_true rfl, Nat.le_of_ble_eq_true rfl⟩) rfl (Nat.le_of_ble_eq_true rfl) ⟨Nat.le_trans (by omega) hce, Nat.le_trans (by omega) hsl⟩ dL_law_577 (z_p ?_)
  refine z_stk (st' := [.int (nI kk)]) rfl ?_
  refine z_iload C dL_law_580 1 rfl ?_
  refine z_icmp_eq C 587 True ⟨fun _ => trivial, fun _ => rfl⟩ dL_law_582 (by decide) (fun _ => ?_) (fun h9 => absurd trivial h9)
  refine z_iload C dL_law_587 1 rfl ?_
  refine z_if_ne C 604 (kk = 0) (nz_iff hkk) dL_law_589 (by decide) (fun h0 => ?_) (fun h0 => ?_)
  · -- thrown
    refine z_goto C 1196 dL_law_604 (by decide) ?_
    refine z_sub (lv' := [(0, .ref b), (1, .ref a0), (2, .ref m0), (3, .ref o0), (4, .int (nI i))]) [2, 3, 4, 5, 6] rfl ?_
    refine z_wide (ce + 4) (sl + 34) (by omega) (by omega) ?_
    exact K L1 F2 n9 now9 sk9 fd9 g9 hnow9 ⟨hcl9, ⟨_, hmo9⟩, hrl9, hLo1, ⟨fo1, hFo2⟩⟩
  · -- answered
    refine z_aload_n C dL_law_592 rfl 5 rfl ?_
    refine z_iconst C (nI 0) dL_law_593 (by decide) ?_
    refine z_lald C hLo1 hFo2 (by omega) (by omega) dL_law_594 (fo1 0) rfl ?_
    refine z_iload C dL_law_595 0 rfl ?_
    refine z_i2l C (r.toInt64) dL_law_597 rfl ?_
    refine z_lcmp C 0 dL_law_598 (by rw [hval h0]; exact lg_cmp_self _) ?_
    refine z_if_eq C 604 True ⟨fun _ => trivial, fun _ => rfl⟩ dL_law_599 (by decide) (fun _ => ?_) (fun h9 => absurd trivial h9)
    refine z_goto C 1196 dL_law_604 (by decide) ?_
    refine z_sub (lv' := [(0, .ref b), (1, .ref a0), (2, .ref m0), (3, .ref o0), (4, .int (nI i))]) [2, 3, 4, 5, 6] rfl ?_
    refine z_wide (ce + 4) (sl + 34) (by omega) (by omega) ?_
    exact K L1 F2 n9 now9 sk9 fd9 g9 hnow9 ⟨hcl9, ⟨_, hmo9⟩, hrl9, hLo1, ⟨fo1, hFo2⟩⟩
