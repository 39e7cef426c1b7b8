set_option maxHeartbeats 4000000 in
set_option maxRecDepth 100000 in
theorem lc_trip {p : Program} {e : Env} {s : State} {m : MethodId} {args : Array Value} {below : List Frame} {meth : Method} {c : Code} {G : zGt} {A : Nat → Prop} {Q : State → Prop} {b N i ce sl : Nat} {xs : Nat → Int32} {L : List Nat} {F : Nat → va_E} {a0 m0 c0 c1 c2 c3 c4 c5 c6 o0 n now sk : Nat} {fd g : Nat → FdT} (l : Launch) (hlst : l.stackTraces = false) (hX : zLX p l s m args meth c b N xs G A) (hi : i + 3 < N) (hI : zLI G L F a0 m0 c0 c1 c2 c3 c4 c5 c6 o0 n now sk fd g) (hn9 : now ≤ 59900) (hce : ce + 4 ≤ 601024) (hsl : sl + 34 ≤ 7293034) (K : zLK p l e s m args below meth c G A Q b i ce sl a0 m0 c0 c1 c2 c3 c4 c5 c6 o0 now) : zW p l e room_1 s m args below meth c 7 G A Q ce sl L F 607 [(0, .ref b), (1, .ref a0), (2, .ref m0), (3, .ref o0), (4, .int (nI i))] [] := by
  obtain ⟨C, hX, hbl, hbA, hN⟩ := hX
  obtain ⟨hcl, ⟨thr, hmo⟩, hrl, hLo, ⟨fo, hFo⟩⟩ := hI
  have hn12 : n ≤ 12 := hmo.2.2.2.2.1
  refine z_aload_n C dL_law_607 rfl 1 rfl ?_
  refine z_aload_n C dL_law_608 rfl 0 rfl ?_
  refine z_iload C dL_law_609 4 rfl ?_
  refine z_iconst C (nI 1) dL_law_611 (by decide) ?_
  refine z_iadd C (nI (i + 1)) dL_law_612 (nI_add i 1) ?_
  refine z_sld C hX hbl hbA (by omega) (by omega) dL_law_613 ?_
  refine z_aload_n C dL_law_614 rfl 3 rfl ?_
  refine z_callSH (As := [.ref a0, .int (xs (i + 1)), .ref o0]) (st := []) (mc := 1) (ms := 6) C (c_L_trip l hlst G L F (zMs m0 c0 c1 c2 c3 c4 c5 c6 o0) a0 n now sk fd o0 fo zMs_o hLo hFo hcl (xs (i + 1))) (vx_cwSW 3 C.1.2.2.2.2 gL_law_L_trip rfl rfl rfl (by decide +kernel) ⟨Nat.le_of_ble_eq_true rfl, Nat.le_of_ble_eq_true rfl⟩) rfl (Nat.le_of_ble_eq_true rfl) ⟨Nat.le_trans (by omega) hce, Nat.le_trans (by omega) hsl⟩ dL_law_615 (fun E9 L9 F9 hx => hx.elim) (fun rv9 L1 F1 hp => ?_)
  obtain ⟨eL, hk1, fo1, hFo1, hd⟩ := hp
  obtain ⟨kk, hkk, erv, hd⟩ := wr2 hd
  rw [erv]
  have hL1 : ∀ b, b ∈ L → b ∈ L1 := fun b hb => eL ▸ hb
  have hmo1 := hmo.off hL1 ⟨fo, hFo⟩ hk1
  refine z_stk (st' := [.int (nI kk)]) rfl ?_
  refine z_istore (lv' := [(5, .int (nI kk)), (0, .ref b), (1, .ref a0), (2, .ref m0), (3, .ref o0), (4, .int (nI i))]) C dL_law_618 (by decide) rfl ?_
  refine z_aload_n C dL_law_620 rfl 3 rfl ?_
  refine z_aload_n C dL_law_621 rfl 1 rfl ?_
  refine z_iload C dL_law_622 5 rfl ?_
  refine z_iconst C (nI 1) dL_law_624 (by decide) ?_
  refine z_iadd C (nI (i + 1)) dL_law_625 (nI_add i 1) ?_
  refine z_sld C hX hbl hbA (by omega) (by omega) dL_law_626 ?_
  refine z_callV (As := [.int (xs (i + 1))]) (st := []) (mc := 0) (ms := 0) C hmo1.1.1 hmo1.2.1.1 rfl (c_X3_trip l hlst G L1 F1 m0 c0 c1 c2 c3 c4 c5 c6 n now sk thr g hmo1 (xs (i + 1))) (cwV 1 C.1.2.2.2.2 gL_law_X3_trip rfl rfl rfl (by decide +kernel) ⟨Nat.le_of_ble_eq_true rfl, Nat.le_of_ble_eq_true rfl⟩) rfl (Nat.le_of_ble_eq_true rfl) ⟨Nat.le_trans (by omega) hce, Nat.le_trans (by omega) hsl⟩ dL_law_627 (fun rv9 L2 F2 hp2 => ?_)
  obtain ⟨r, er, eL2, hk2, hd2⟩ := hp2
  rw [er, eL2]
  have hag : zAg G L1 F2 a0 m0 c0 c1 c2 c3 c4 c5 c6 o0 kk fo1 r now := by
    have hkM := mKeep (o0 := o0) hk2
    rcases hd with ⟨ek, st, hj, h1, h2, hv, hc⟩ | ⟨ek, hj, hc⟩
    · rcases hd2 with ⟨st', hj', h1', h2', hr, hm⟩ | ⟨hj', hm⟩
      · subst ek
        have est : st = st' := nIe (by omega) (by omega) (hj.symm.trans hj')
        subst est
        exact ⟨n, now, sk, (fdK (fun _ r => trG st r) fd n), (fdK (fun _ r => trG st r) g n), hc.offM hkM, hm, (fRl.K (fun k hk => (hrl k hk).tG st)), fun _ => hv.trans (by rw [hr]; exact congrArg (fun z => (nI z).toInt64) (hrl.sm (f := trT st) (fun a b h => h.tT st))), (by omega)⟩
      · exact absurd (zIn_in (by decide) h1 h2 hj) hj'
    · rcases hd2 with ⟨st', hj', h1', h2', hr, hm⟩ | ⟨hj', hm⟩
      · exact absurd (zIn_in (by decide) h1' h2' hj') hj
      · subst ek
        exact ⟨n, now, sk, fd, g, hc.offM hkM, hm, hrl, fun q => absurd q (by decide), (by omega)⟩
  have hFo2 := (oKeep hmo1 ⟨fo1, hFo1⟩ hk2).trans hFo1
  have hLo1 := hL1 _ hLo
  obtain ⟨n9, now9, sk9, fd9, g9, hcl9, hmo9, hrl9, hval, hnow9⟩ := hag
  refine z_stk (st' := [.int r]) rfl ?_
  refine z_istore (lv' := [(6, .int r), (5, .int (nI kk)), (0, .ref b), (1, .ref a0), (2, .ref m0), (3, .ref o0), (4, .int (nI i))]) C dL_law_630 (by decide) rfl ?_
  refine z_aload_n C dL_law_632 rfl 4 rfl ?_
  refine z_callV (As := []) (st := []) (mc := 0) (ms := 0) C hmo9.1.1 hmo9.2.1.1 rfl (c_X3_thrown l hlst G L1 F2 m0 c0 c1 c2 c3 c4 c5 c6 n9 now9 sk9 kk g9 hmo9) (cwV 0 C.1.2.2.2.2 gL_law_X3_thrown rfl rfl rfl (by decide +kernel) ⟨Nat.le_of_ble_eq_true rfl, Nat.le_of_ble_eq_true rfl⟩) rfl (Nat.le_of_ble_eq_true rfl) ⟨Nat.le_trans (by omega) hce, Nat.le_trans (by omega) hsl⟩ dL_law_633 (z_p ?_)
  refine z_stk (st' := [.int (nI kk)]) rfl ?_
  refine z_iload C dL_law_636 1 rfl ?_
  refine z_icmp_eq C 643 True ⟨fun _ => trivial, fun _ => rfl⟩ dL_law_638 (by decide) (fun _ => ?_) (fun h9 => absurd trivial h9)
  refine z_iload C dL_law_643 1 rfl ?_
  refine z_if_ne C 660 (kk = 0) (nz_iff hkk) dL_law_645 (by decide) (fun h0 => ?_) (fun h0 => ?_)
  · -- thrown
    refine z_goto C 1196 dL_law_660 (by decide) ?_
    refine z_sub (lv' := [(0, .ref b), (1, .ref a0), (2, .ref m0), (3, .ref o0), (4, .int (nI i))]) [2, 3, 4, 5, 6] rfl ?_
    refine z_wide (ce + 4) (sl + 34) (by omega) (by omega) ?_
    exact K L1 F2 n9 now9 sk9 fd9 g9 hnow9 ⟨hcl9, ⟨_, hmo9⟩, hrl9, hLo1, ⟨fo1, hFo2⟩⟩
  · -- answered
    refine z_aload_n C dL_law_648 rfl 5 rfl ?_
    refine z_iconst C (nI 0) dL_law_649 (by decide) ?_
    refine z_lald C hLo1 hFo2 (by omega) (by omega) dL_law_650 (fo1 0) rfl ?_
    refine z_iload C dL_law_651 0 rfl ?_
    refine z_i2l C (r.toInt64) dL_law_653 rfl ?_
    refine z_lcmp C 0 dL_law_654 (by rw [hval h0]; exact lg_cmp_self _) ?_
    refine z_if_eq C 660 True ⟨fun _ => trivial, fun _ => rfl⟩ dL_law_655 (by decide) (fun _ => ?_) (fun h9 => absurd trivial h9)
    refine z_goto C 1196 dL_law_660 (by decide) ?_
    refine z_sub (lv' := [(0, .ref b), (1, .ref a0), (2, .ref m0), (3, .ref o0), (4, .int (nI i))]) [2, 3, 4, 5, 6] rfl ?_
    refine z_wide (ce + 4) (sl + 34) (by omega) (by omega) ?_
    exact K L1 F2 n9 now9 sk9 fd9 g9 hnow9 ⟨hcl9, ⟨_, hmo9⟩, hrl9, hLo1, ⟨fo1, hFo2⟩⟩

set_option maxHeartbeats 4000000 in
set_option maxRecDepth 100000 in
theorem lc_restore {p : Program} {e : Env} {s : State} {m : MethodId} {args : Array Value} {below : List Frame} {meth : Method} {c : Code} {G : zGt} {A : Nat → Prop} {Q : State → Prop} {b N i ce sl : Nat} {xs : Nat → Int32} {L : List Nat} {F : Nat → va_E} {a0 m0 c0 c1 c2 c3 c4 c5 c6 o0 n now sk : Nat} {fd g : Nat → FdT} (l : Launch) (hlst : l.stackTraces = false) (hX : zLX p l s m args meth c b N xs G A) (hi : i + 3 < N) (hI : zLI G L F a0 m0 c0 c1 c2 c3 c4 c5 c6 o0 n now sk fd g) (hn9 : now ≤ 59900) (hce : ce + 4 ≤ 601024) (hsl : sl + 34 ≤ 7293034) (K : zLK p l e s m args below meth c G A Q b i ce sl a0 m0 c0 c1 c2 c3 c4 c5 c6 o0 now) : zW p l e room_1 s m args below meth c 7 G A Q ce sl L F 663 [(0, .ref b), (1, .ref a0), (2, .ref m0), (3, .ref o0), (4, .int (nI i))] [] := by
  obtain ⟨C, hX, hbl, hbA, hN⟩ := hX
  obtain ⟨hcl, ⟨thr, hmo⟩, hrl, hLo, ⟨fo, hFo⟩⟩ := hI
  have hn12 : n ≤ 12 := hmo.2.2.2.2.1
  refine z_aload_n C dL_law_663 rfl 1 rfl ?_
  refine z_aload_n C dL_law_664 rfl 0 rfl ?_
  refine z_iload C dL_law_665 4 rfl ?_
  refine z_iconst C (nI 1) dL_law_667 (by decide) ?_
  refine z_iadd C (nI (i + 1)) dL_law_668 (nI_add i 1) ?_
  refine z_sld C hX hbl hbA (by omega) (by omega) dL_law_669 ?_
  refine z_aload_n C dL_law_670 rfl 3 rfl ?_
  refine z_callSH (As := [.ref a0, .int (xs (i + 1)), .ref o0]) (st := []) (mc := 2) (ms := 12) C (c_L_restore l hlst G L F (zMs m0 c0 c1 c2 c3 c4 c5 c6 o0) a0 n now sk fd o0 fo zMs_o hLo hFo hcl (xs (i + 1))) (vx_cwSW 3 C.1.2.2.2.2 gL_law_L_restore rfl rfl rfl (by decide +kernel) ⟨Nat.le_of_ble_eq_true rfl, Nat.le_of_ble_eq_true rfl⟩) rfl (Nat.le_of_ble_eq_true rfl) ⟨Nat.le_trans (by omega) hce, Nat.le_trans (by omega) hsl⟩ dL_law_671 (fun E9 L9 F9 hx => hx.elim) (fun rv9 L1 F1 hp => ?_)
  obtain ⟨eL, hk1, fo1, hFo1, hd⟩ := hp
  obtain ⟨kk, hkk, erv, hd⟩ := wr3 hd
  rw [erv]
  have hL1 : ∀ b, b ∈ L → b ∈ L1 := fun b hb => eL ▸ hb
  have hmo1 := hmo.off hL1 ⟨fo, hFo⟩ hk1
  refine z_stk (st' := [.int (nI kk)]) rfl ?_
  refine z_istore (lv' := [(5, .int (nI kk)), (0, .ref b), (1, .ref a0), (2, .ref m0), (3, .ref o0), (4, .int (nI i))]) C dL_law_674 (by decide) rfl ?_
  refine z_aload_n C dL_law_676 rfl 3 rfl ?_
  refine z_aload_n C dL_law_677 rfl 1 rfl ?_
  refine z_iload C dL_law_678 5 rfl ?_
  refine z_iconst C (nI 1) dL_law_680 (by decide) ?_
  refine z_iadd C (nI (i + 1)) dL_law_681 (nI_add i 1) ?_
  refine z_sld C hX hbl hbA (by omega) (by omega) dL_law_682 ?_
  refine z_callV (As := [.int (xs (i + 1))]) (st := []) (mc := 0) (ms := 0) C hmo1.1.1 hmo1.2.1.1 rfl (c_X3_restore l hlst G L1 F1 m0 c0 c1 c2 c3 c4 c5 c6 n now sk thr g hmo1 (xs (i + 1))) (cwV 1 C.1.2.2.2.2 gL_law_X3_restore rfl rfl rfl (by decide +kernel) ⟨Nat.le_of_ble_eq_true rfl, Nat.le_of_ble_eq_true rfl⟩) rfl (Nat.le_of_ble_eq_true rfl) ⟨Nat.le_trans (by omega) hce, Nat.le_trans (by omega) hsl⟩ dL_law_683 (fun rv9 L2 F2 hp2 => ?_)
  obtain ⟨r, er, eL2, hk2, hd2⟩ := hp2
  rw [er, eL2]
  have hag : zAg G L1 F2 a0 m0 c0 c1 c2 c3 c4 c5 c6 o0 kk fo1 r now := by
    have hkM := mKeep (o0 := o0) hk2
    rcases hd with ⟨ek, k, hk, hx, ho, hv, hc⟩ | ⟨ek, hx, hc⟩ | ⟨ek, ⟨k, hk, hx, ho⟩, hc⟩
    · rcases hd2 with ⟨k', hx', hk', ho', hr, hm⟩ | ⟨hx', hm⟩ | ⟨k', hx', hk', ho', hm⟩
      · subst ek
        have ekk : k = k' := nIe (by omega) (by omega) (hx.symm.trans hx')
        subst ekk
        exact ⟨n, now, sk, (upF fd k (fOn (fd k))), (upF g k (fBb (g k))), hc.offM hkM, hm, (hrl.up ((hrl k hk).on (by rw [ho]; decide))), fun _ => hv.trans (by rw [hr]; exact congrArg (fun z => (nI z).toInt64) (((hrl k hk).on (by rw [ho]; decide)).tk)), (by omega)⟩
      · exact absurd (zIx_in hn12 hk hx) hx'
      · have ekk : k = k' := nIe (by omega) (by omega) (hx.symm.trans hx')
        subst ekk
        have ho9 := (hrl k hk).2.2.2.1
        rw [ho, ho'] at ho9
        exact absurd ho9 (by decide)
    · rcases hd2 with ⟨k', hx', hk', ho', hr, hm⟩ | ⟨hx', hm⟩ | ⟨k', hx', hk', ho', hm⟩
      · exact absurd (zIx_in hn12 hk' hx') hx
      · subst ek
        exact ⟨n, now, sk, fd, g, hc.offM hkM, hm, hrl, fun q => absurd q (by decide), (by omega)⟩
      · exact absurd (zIx_in hn12 hk' hx') hx
    · rcases hd2 with ⟨k', hx', hk', ho', hr, hm⟩ | ⟨hx', hm⟩ | ⟨k', hx', hk', ho', hm⟩
      · have ekk : k = k' := nIe (by omega) (by omega) (hx.symm.trans hx')
        subst ekk
        have ho9 := (hrl k hk).2.2.2.1
        rw [ho, ho'] at ho9
        exact absurd ho9 (by decide)
      · exact absurd (zIx_in hn12 hk hx) hx'
      · subst ek
        exact ⟨n, now, sk, fd, g, hc.offM hkM, hm, hrl, fun q => absurd q (by decide), (by omega)⟩
  have hFo2 := (oKeep hmo1 ⟨fo1, hFo1⟩ hk2).trans hFo1
  have hLo1 := hL1 _ hLo
  obtain ⟨n9, now9, sk9, fd9, g9, hcl9, hmo9, hrl9, hval, hnow9⟩ := hag
  refine z_stk (st' := [.int r]) rfl ?_
  refine z_istore (lv' := [(6, .int r), (5, .int (nI kk)), (0, .ref b), (1, .ref a0), (2, .ref m0), (3, .ref o0), (4, .int (nI i))]) C dL_law_686 (by decide) rfl ?_
  refine z_aload_n C dL_law_688 rfl 4 rfl ?_
  refine z_callV (As := []) (st := []) (mc := 0) (ms := 0) C hmo9.1.1 hmo9.2.1.1 rfl (c_X3_thrown l hlst G L1 F2 m0 c0 c1 c2 c3 c4 c5 c6 n9 now9 sk9 kk g9 hmo9) (cwV 0 C.1.2.2.2.2 gL_law_X3_thrown rfl rfl rfl (by decide +kernel) ⟨Nat.le_of_ble_eq_true rfl, Nat.le_of_ble_eq_true rfl⟩) rfl (Nat.le_of_ble_eq_true rfl) ⟨Nat.le_trans (by omega) hce, Nat.le_trans (by omega) hsl⟩ dL_law_689 (z_p ?_)
  refine z_stk (st' := [.int (nI kk)]) rfl ?_
  refine z_iload C dL_law_692 1 rfl ?_
  refine z_icmp_eq C 699 True ⟨fun _ => trivial, fun _ => rfl⟩ dL_law_694 (by decide) (fun _ => ?_) (fun h9 => absurd trivial h9)
  refine z_iload C dL_law_699 1 rfl ?_
  refine z_if_ne C 716 (kk = 0) (nz_iff hkk) dL_law_701 (by decide) (fun h0 => ?_) (fun h0 => ?_)
  · -- thrown
    refine z_goto C 1196 dL_law_716 (by decide) ?_
    refine z_sub (lv' := [(0, .ref b), (1, .ref a0), (2, .ref m0), (3, .ref o0), (4, .int (nI i))]) [2, 3, 4, 5, 6] rfl ?_
    refine z_wide (ce + 4) (sl + 34) (by omega) (by omega) ?_
    exact K L1 F2 n9 now9 sk9 fd9 g9 hnow9 ⟨hcl9, ⟨_, hmo9⟩, hrl9, hLo1, ⟨fo1, hFo2⟩⟩
  · -- answered
    refine z_aload_n C dL_law_704 rfl 5 rfl ?_
    refine z_iconst C (nI 0) dL_law_705 (by decide) ?_
    refine z_lald C hLo1 hFo2 (by omega) (by omega) dL_law_706 (fo1 0) rfl ?_
    refine z_iload C dL_law_707 0 rfl ?_
    refine z_i2l C (r.toInt64) dL_law_709 rfl ?_
    refine z_lcmp C 0 dL_law_710 (by rw [hval h0]; exact lg_cmp_self _) ?_
    refine z_if_eq C 716 True ⟨fun _ => trivial, fun _ => rfl⟩ dL_law_711 (by decide) (fun _ => ?_) (fun h9 => absurd trivial h9)
    refine z_goto C 1196 dL_law_716 (by decide) ?_
    refine z_sub (lv' := [(0, .ref b), (1, .ref a0), (2, .ref m0), (3, .ref o0), (4, .int (nI i))]) [2, 3, 4, 5, 6] rfl ?_
    refine z_wide (ce + 4) (sl + 34) (by omega) (by omega) ?_
    exact K L1 F2 n9 now9 sk9 fd9 g9 hnow9 ⟨hcl9, ⟨_, hmo9⟩, hrl9, hLo1, ⟨fo1, hFo2⟩⟩

set_option maxHeartbeats 4000000 in
set_option maxRecDepth 100000 in
theorem lc_cut {p : Program} {e : Env} {s : State} {m : MethodId} {args : Array Value} {below : List Frame} {meth : Method} {c : Code} {G : zGt} {A : Nat → Prop} {Q : State → Prop} {b N i ce sl : Nat} {xs : Nat → Int32} {L : List Nat} {F : Nat → va_E} {a0 m0 c0 c1 c2 c3 c4 c5 c6 o0 n now sk : Nat} {fd g : Nat → FdT} (l : Launch) (hlst : l.stackTraces = false) (hX : zLX p l s m args meth c b N xs G A) (hi : i + 3 < N) (hI : zLI G L F a0 m0 c0 c1 c2 c3 c4 c5 c6 o0 n now sk fd g) (hn9 : now ≤ 59900) (hce : ce + 4 ≤ 601024) (hsl : sl + 34 ≤ 7293034) (K : zLK p l e s m args below meth c G A Q b i ce sl a0 m0 c0 c1 c2 c3 c4 c5 c6 o0 now) : zW p l e room_1 s m args below meth c 7 G A Q ce sl L F 719 [(0, .ref b), (1, .ref a0), (2, .ref m0), (3, .ref o0), (4, .int (nI i))] [] := by
  obtain ⟨C, hX, hbl, hbA, hN⟩ := hX
  obtain ⟨hcl, ⟨thr, hmo⟩, hrl, hLo, ⟨fo, hFo⟩⟩ := hI
  have hn12 : n ≤ 12 := hmo.2.2.2.2.1
  refine z_aload_n C dL_law_719 rfl 1 rfl ?_
  refine z_aload_n C dL_law_720 rfl 0 rfl ?_
  refine z_iload C dL_law_721 4 rfl ?_
  refine z_iconst C (nI 1) dL_law_723 (by decide) ?_
  refine z_iadd C (nI (i + 1)) dL_law_724 (nI_add i 1) ?_
  refine z_sld C hX hbl hbA (by omega) (by omega) dL_law_725 ?_
  refine z_aload_n C dL_law_726 rfl 3 rfl ?_
  refine z_callSH (As := [.ref a0, .int (xs (i + 1)), .ref o0]) (st := []) (mc := 2) (ms := 12) C (c_L_cut l hlst G L F (zMs m0 c0 c1 c2 c3 c4 c5 c6 o0) a0 n now sk fd o0 fo zMs_o hLo hFo hcl (xs (i + 1))) (vx_cwSW 3 C.1.2.2.2.2 gL_law_L_cut rfl rfl rfl (by decide +kernel) ⟨Nat.le_of_ble_eq_true rfl, Nat.le_of_ble_eq_true rfl⟩) rfl (Nat.le_of_ble_eq_true rfl) ⟨Nat.le_trans (by omega) hce, Nat.le_trans (by omega) hsl⟩ dL_law_727 (fun E9 L9 F9 hx => hx.elim) (fun rv9 L1 F1 hp => ?_)
  obtain ⟨eL, hk1, fo1, hFo1, hd⟩ := hp
  obtain ⟨kk, hkk, erv, hd⟩ := wr3 hd
  rw [erv]
  have hL1 : ∀ b, b ∈ L → b ∈ L1 := fun b hb => eL ▸ hb
  have hmo1 := hmo.off hL1 ⟨fo, hFo⟩ hk1
  refine z_stk (st' := [.int (nI kk)]) rfl ?_
  refine z_istore (lv' := [(5, .int (nI kk)), (0, .ref b), (1, .ref a0), (2, .ref m0), (3, .ref o0), (4, .int (nI i))]) C dL_law_730 (by decide) rfl ?_
  refine z_aload_n C dL_law_732 rfl 3 rfl ?_
  refine z_aload_n C dL_law_733 rfl 1 rfl ?_
  refine z_iload C dL_law_734 5 rfl ?_
  refine z_iconst C (nI 1) dL_law_736 (by decide) ?_
  refine z_iadd C (nI (i + 1)) dL_law_737 (nI_add i 1) ?_
  refine z_sld C hX hbl hbA (by omega) (by omega) dL_law_738 ?_
  refine z_callV (As := [.int (xs (i + 1))]) (st := []) (mc := 0) (ms := 0) C hmo1.1.1 hmo1.2.1.1 rfl (c_X3_cut l hlst G L1 F1 m0 c0 c1 c2 c3 c4 c5 c6 n now sk thr g hmo1 (xs (i + 1))) (cwV 1 C.1.2.2.2.2 gL_law_X3_cut rfl rfl rfl (by decide +kernel) ⟨Nat.le_of_ble_eq_true rfl, Nat.le_of_ble_eq_true rfl⟩) rfl (Nat.le_of_ble_eq_true rfl) ⟨Nat.le_trans (by omega) hce, Nat.le_trans (by omega) hsl⟩ dL_law_739 (fun rv9 L2 F2 hp2 => ?_)
  obtain ⟨r, er, eL2, hk2, hd2⟩ := hp2
  rw [er, eL2]
  have hag : zAg G L1 F2 a0 m0 c0 c1 c2 c3 c4 c5 c6 o0 kk fo1 r now := by
    have hkM := mKeep (o0 := o0) hk2
    rcases hd with ⟨ek, k, hk, hx, ho, hv, hc⟩ | ⟨ek, hx, hc⟩ | ⟨ek, ⟨k, hk, hx, ho⟩, hc⟩
    · rcases hd2 with ⟨k', hx', hk', ho', hr, hm⟩ | ⟨hx', hm⟩ | ⟨k', hx', hk', ho', hm⟩
      · subst ek
        have ekk : k = k' := nIe (by omega) (by omega) (hx.symm.trans hx')
        subst ekk
        exact ⟨n, now, sk, (upF fd k (fOff (fd k))), (upF g k (fOff (g k))), hc.offM hkM, hm, (hrl.up ((hrl k hk).off)), fun _ => hv.trans (by rw [hr]; exact congrArg (fun z => (nI z).toInt64) ((hrl k hk).tk)), (by omega)⟩
      · exact absurd (zIx_in hn12 hk hx) hx'
      · have ekk : k = k' := nIe (by omega) (by omega) (hx.symm.trans hx')
        subst ekk
        have ho9 := (hrl k hk).2.2.2.1
        rw [ho, ho'] at ho9
        exact absurd ho9 (by decide)
    · rcases hd2 with ⟨k', hx', hk', ho', hr, hm⟩ | ⟨hx', hm⟩ | ⟨k', hx', hk', ho', hm⟩
      · exact absurd (zIx_in hn12 hk' hx') hx
      · subst ek
        exact ⟨n, now, sk, fd, g, hc.offM hkM, hm, hrl, fun q => absurd q (by decide), (by omega)⟩
      · exact absurd (zIx_in hn12 hk' hx') hx
    · rcases hd2 with ⟨k', hx', hk', ho', hr, hm⟩ | ⟨hx', hm⟩ | ⟨k', hx', hk', ho', hm⟩
      · have ekk : k = k' := nIe (by omega) (by omega) (hx.symm.trans hx')
        subst ekk
        have ho9 := (hrl k hk).2.2.2.1
        rw [ho, ho'] at ho9
        exact absurd ho9 (by decide)
      · exact absurd (zIx_in hn12 hk hx) hx'
      · subst ek
        exact ⟨n, now, sk, fd, g, hc.offM hkM, hm, hrl, fun q => absurd q (by decide), (by omega)⟩
  have hFo2 := (oKeep hmo1 ⟨fo1, hFo1⟩ hk2).trans hFo1
  have hLo1 := hL1 _ hLo
  obtain ⟨n9, now9, sk9, fd9, g9, hcl9, hmo9, hrl9, hval, hnow9⟩ := hag
  refine z_stk (st' := [.int r]) rfl ?_
  refine z_istore (lv' := [(6, .int r), (5, .int (nI kk)), (0, .ref b), (1, .ref a0), (2, .ref m0), (3, .ref o0), (4, .int (nI i))]) C dL_law_742 (by decide) rfl ?_
  refine z_aload_n C dL_law_744 rfl 4 rfl ?_
  refine z_callV (As := []) (st := []) (mc := 0) (ms := 0) C hmo9.1.1 hmo9.2.1.1 rfl (c_X3_thrown l hlst G L1 F2 m0 c0 c1 c2 c3 c4 c5 c6 n9 now9 sk9 kk g9 hmo9) (cwV 0 C.1.2.2.2.2 gL_law_X3_thrown rfl rfl rfl (by decide +kernel) ⟨Nat.le_of_ble_eq_true rfl, Nat.le_of_ble_eq_true rfl⟩) rfl (Nat.le_of_ble_eq_true rfl) ⟨Nat.le_trans (by omega) hce, Nat.le_trans (by omega) hsl⟩ dL_law_745 (z_p ?_)
  refine z_stk (st' := [.int (nI kk)]) rfl ?_
  refine z_iload C dL_law_748 1 rfl ?_
  refine z_icmp_eq C 755 True ⟨fun _ => trivial, fun _ => rfl⟩ dL_law_750 (by decide) (fun _ => ?_) (fun h9 => absurd trivial h9)
  refine z_iload C dL_law_755 1 rfl ?_
  refine z_if_ne C 772 (kk = 0) (nz_iff hkk) dL_law_757 (by decide) (fun h0 => ?_) (fun h0 => ?_)
  · -- thrown
    refine z_goto C 1196 dL_law_772 (by decide) ?_
    refine z_sub (lv' := [(0, .ref b), (1, .ref a0), (2, .ref m0), (3, .ref o0), (4, .int (nI i))]) [2, 3, 4, 5, 6] rfl ?_
    refine z_wide (ce + 4) (sl + 34) (by omega) (by omega) ?_
    exact K L1 F2 n9 now9 sk9 fd9 g9 hnow9 ⟨hcl9, ⟨_, hmo9⟩, hrl9, hLo1, ⟨fo1, hFo2⟩⟩
  · -- answered
    refine z_aload_n C dL_law_760 rfl 5 rfl ?_
    refine z_iconst C (nI 0) dL_law_761 (by decide) ?_
    refine z_lald C hLo1 hFo2 (by omega) (by omega) dL_law_762 (fo1 0) rfl ?_
    refine z_iload C dL_law_763 0 rfl ?_
    refine z_i2l C (r.toInt64) dL_law_765 rfl ?_
    refine z_lcmp C 0 dL_law_766 (by rw [hval h0]; exact lg_cmp_self _) ?_
    refine z_if_eq C 772 True ⟨fun _ => trivial, fun _ => rfl⟩ dL_law_767 (by decide) (fun _ => ?_) (fun h9 => absurd trivial h9)
    refine z_goto C 1196 dL_law_772 (by decide) ?_
    refine z_sub (lv' := [(0, .ref b), (1, .ref a0), (2, .ref m0), (3, .ref o0), (4, .int (nI i))]) [2, 3, 4, 5, 6] rfl ?_
    refine z_wide (ce + 4) (sl + 34) (by omega) (by omega) ?_
    exact K L1 F2 n9 now9 sk9 fd9 g9 hnow9 ⟨hcl9, ⟨_, hmo9⟩, hrl9, hLo1, ⟨fo1, hFo2⟩⟩
