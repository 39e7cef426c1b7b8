set_option maxHeartbeats 4000000 in
set_option maxRecDepth 100000 in
theorem lc_hour {p : Program} {e : Env} {s : State} {m : MethodId} {args : Array Value} {below : List Frame} {meth : Method} {c : Code} {G : zGt} {A : Nat → Prop} {Q : State → Prop} {b N i ce sl : Nat} {xs : Nat → Int32} {L : List Nat} {F : Nat → va_E} {a0 m0 c0 c1 c2 c3 c4 c5 c6 o0 n now sk : Nat} {fd g : Nat → FdT} (l : Launch) (hlst : l.stackTraces = false) (hX : zLX p l s m args meth c b N xs G A) (hi : i + 3 < N) (hI : zLI G L F a0 m0 c0 c1 c2 c3 c4 c5 c6 o0 n now sk fd g) (hn9 : now ≤ 59900) (hce : ce + 4 ≤ 601024) (hsl : sl + 34 ≤ 7293034) (K : zLK p l e s m args below meth c G A Q b i ce sl a0 m0 c0 c1 c2 c3 c4 c5 c6 o0 now) : zW p l e room_1 s m args below meth c 7 G A Q ce sl L F 775 [(0, .ref b), (1, .ref a0), (2, .ref m0), (3, .ref o0), (4, .int (nI i))] [] := by
  obtain ⟨C, hX, hbl, hbA, hN⟩ := hX
  obtain ⟨hcl, ⟨thr, hmo⟩, hrl, hLo, ⟨fo, hFo⟩⟩ := hI
  obtain ⟨a1, a2, b4, b5, b6, b7, ad, hco⟩ := id hcl
  refine z_aload_n C dL_law_775 rfl 1 rfl ?_
  refine z_callV (As := []) (st := []) (mc := 0) (ms := 0) C hco.1.1 hco.2.1 rfl (c_X2_hour l hlst G L F (zMs m0 c0 c1 c2 c3 c4 c5 c6 o0) a0 a1 a2 b4 b5 b6 b7 ad n now sk fd hco) (cwV 0 C.1.2.2.2.2 gL_law_X2_hour rfl rfl rfl (by decide +kernel) ⟨Nat.le_of_ble_eq_true rfl, Nat.le_of_ble_eq_true rfl⟩) rfl (Nat.le_of_ble_eq_true rfl) ⟨Nat.le_trans (by omega) hce, Nat.le_trans (by omega) hsl⟩ dL_law_776 (z_p ?_)
  refine z_stk (st' := [.int (nI now)]) rfl ?_
  refine z_aload_n C dL_law_779 rfl 2 rfl ?_
  refine z_callV (As := []) (st := [.int (nI now)]) (mc := 0) (ms := 0) C hmo.1.1 hmo.2.1.1 rfl (c_X3_hour l hlst G L F m0 c0 c1 c2 c3 c4 c5 c6 n now sk thr g hmo) (cwV 0 C.1.2.2.2.2 gL_law_X3_hour rfl rfl rfl (by decide +kernel) ⟨Nat.le_of_ble_eq_true rfl, Nat.le_of_ble_eq_true rfl⟩) rfl (Nat.le_of_ble_eq_true rfl) ⟨Nat.le_trans (by omega) hce, Nat.le_trans (by omega) hsl⟩ dL_law_780 (fun rv9 L2 F2 hp2 => ?_)
  obtain ⟨er, eL2, hm, hk2⟩ := hp2
  rw [er, eL2]
  refine z_stk (st' := [.int (nI now), .int (nI now)]) rfl ?_
  refine z_icmp_eq C 1196 True ⟨fun _ => trivial, fun _ => rfl⟩ dL_law_783 (by decide) (fun _ => ?_) (fun h9 => absurd trivial h9)
  refine z_sub (lv' := [(0, .ref b), (1, .ref a0), (2, .ref m0), (3, .ref o0), (4, .int (nI i))]) [0, 1, 2, 3, 4] rfl ?_
  refine z_wide (ce + 4) (sl + 34) (by omega) (by omega) ?_
  exact K L F2 n now sk fd g (by omega) ⟨hcl.offM (mKeep hk2), ⟨_, hm⟩, hrl, hLo, ⟨fo, (oKeep hmo ⟨fo, hFo⟩ hk2).trans hFo⟩⟩

set_option maxHeartbeats 4000000 in
set_option maxRecDepth 100000 in
theorem lc_feeders {p : Program} {e : Env} {s : State} {m : MethodId} {args : Array Value} {below : List Frame} {meth : Method} {c : Code} {G : zGt} {A : Nat → Prop} {Q : State → Prop} {b N i ce sl : Nat} {xs : Nat → Int32} {L : List Nat} {F : Nat → va_E} {a0 m0 c0 c1 c2 c3 c4 c5 c6 o0 n now sk : Nat} {fd g : Nat → FdT} (l : Launch) (hlst : l.stackTraces = false) (hX : zLX p l s m args meth c b N xs G A) (hi : i + 3 < N) (hI : zLI G L F a0 m0 c0 c1 c2 c3 c4 c5 c6 o0 n now sk fd g) (hn9 : now ≤ 59900) (hce : ce + 4 ≤ 601024) (hsl : sl + 34 ≤ 7293034) (K : zLK p l e s m args below meth c G A Q b i ce sl a0 m0 c0 c1 c2 c3 c4 c5 c6 o0 now) : zW p l e room_1 s m args below meth c 7 G A Q ce sl L F 788 [(0, .ref b), (1, .ref a0), (2, .ref m0), (3, .ref o0), (4, .int (nI i))] [] := by
  obtain ⟨C, hX, hbl, hbA, hN⟩ := hX
  obtain ⟨hcl, ⟨thr, hmo⟩, hrl, hLo, ⟨fo, hFo⟩⟩ := hI
  obtain ⟨a1, a2, b4, b5, b6, b7, ad, hco⟩ := id hcl
  refine z_aload_n C dL_law_788 rfl 1 rfl ?_
  refine z_callV (As := []) (st := []) (mc := 0) (ms := 0) C hco.1.1 hco.2.1 rfl (c_X2_feeders l hlst G L F (zMs m0 c0 c1 c2 c3 c4 c5 c6 o0) a0 a1 a2 b4 b5 b6 b7 ad n now sk fd hco) (cwV 0 C.1.2.2.2.2 gL_law_X2_feeders rfl rfl rfl (by decide +kernel) ⟨Nat.le_of_ble_eq_true rfl, Nat.le_of_ble_eq_true rfl⟩) rfl (Nat.le_of_ble_eq_true rfl) ⟨Nat.le_trans (by omega) hce, Nat.le_trans (by omega) hsl⟩ dL_law_789 (z_p ?_)
  refine z_stk (st' := [.int (nI n)]) rfl ?_
  refine z_aload_n C dL_law_792 rfl 2 rfl ?_
  refine z_callV (As := []) (st := [.int (nI n)]) (mc := 0) (ms := 0) C hmo.1.1 hmo.2.1.1 rfl (c_X3_feeders l hlst G L F m0 c0 c1 c2 c3 c4 c5 c6 n now sk thr g hmo) (cwV 0 C.1.2.2.2.2 gL_law_X3_feeders rfl rfl rfl (by decide +kernel) ⟨Nat.le_of_ble_eq_true rfl, Nat.le_of_ble_eq_true rfl⟩) rfl (Nat.le_of_ble_eq_true rfl) ⟨Nat.le_trans (by omega) hce, Nat.le_trans (by omega) hsl⟩ dL_law_793 (fun rv9 L2 F2 hp2 => ?_)
  obtain ⟨er, eL2, hm, hk2⟩ := hp2
  rw [er, eL2]
  refine z_stk (st' := [.int (nI n), .int (nI n)]) rfl ?_
  refine z_icmp_eq C 1196 True ⟨fun _ => trivial, fun _ => rfl⟩ dL_law_796 (by decide) (fun _ => ?_) (fun h9 => absurd trivial h9)
  refine z_sub (lv' := [(0, .ref b), (1, .ref a0), (2, .ref m0), (3, .ref o0), (4, .int (nI i))]) [0, 1, 2, 3, 4] rfl ?_
  refine z_wide (ce + 4) (sl + 34) (by omega) (by omega) ?_
  exact K L F2 n now sk fd g (by omega) ⟨hcl.offM (mKeep hk2), ⟨_, hm⟩, hrl, hLo, ⟨fo, (oKeep hmo ⟨fo, hFo⟩ hk2).trans hFo⟩⟩

set_option maxHeartbeats 4000000 in
set_option maxRecDepth 100000 in
theorem lc_load {p : Program} {e : Env} {s : State} {m : MethodId} {args : Array Value} {below : List Frame} {meth : Method} {c : Code} {G : zGt} {A : Nat → Prop} {Q : State → Prop} {b N i ce sl : Nat} {xs : Nat → Int32} {L : List Nat} {F : Nat → va_E} {a0 m0 c0 c1 c2 c3 c4 c5 c6 o0 n now sk : Nat} {fd g : Nat → FdT} (l : Launch) (hlst : l.stackTraces = false) (hX : zLX p l s m args meth c b N xs G A) (hi : i + 3 < N) (hI : zLI G L F a0 m0 c0 c1 c2 c3 c4 c5 c6 o0 n now sk fd g) (hn9 : now ≤ 59900) (hce : ce + 4 ≤ 601024) (hsl : sl + 34 ≤ 7293034) (K : zLK p l e s m args below meth c G A Q b i ce sl a0 m0 c0 c1 c2 c3 c4 c5 c6 o0 now) : zW p l e room_1 s m args below meth c 7 G A Q ce sl L F 1032 [(0, .ref b), (1, .ref a0), (2, .ref m0), (3, .ref o0), (4, .int (nI i))] [] := by
  obtain ⟨C, hX, hbl, hbA, hN⟩ := hX
  obtain ⟨hcl, ⟨thr, hmo⟩, hrl, hLo, ⟨fo, hFo⟩⟩ := hI
  obtain ⟨a1, a2, b4, b5, b6, b7, ad, hco⟩ := id hcl
  refine z_aload_n C dL_law_1032 rfl 1 rfl ?_
  refine z_callV (As := []) (st := []) (mc := 0) (ms := 0) C hco.1.1 hco.2.1 rfl (c_X2_load l hlst G L F (zMs m0 c0 c1 c2 c3 c4 c5 c6 o0) a0 a1 a2 b4 b5 b6 b7 ad n now sk fd hco) (cwV 0 C.1.2.2.2.2 gL_law_X2_load rfl rfl rfl (by decide +kernel) ⟨Nat.le_of_ble_eq_true rfl, Nat.le_of_ble_eq_true rfl⟩) rfl (Nat.le_of_ble_eq_true rfl) ⟨Nat.le_trans (by omega) hce, Nat.le_trans (by omega) hsl⟩ dL_law_1033 (z_p ?_)
  refine z_stk (st' := [.int (nI (smV (fun j => fTk (fd j)) n))]) rfl ?_
  refine z_aload_n C dL_law_1036 rfl 2 rfl ?_
  refine z_callV (As := []) (st := [.int (nI (smV (fun j => fTk (fd j)) n))]) (mc := 0) (ms := 0) C hmo.1.1 hmo.2.1.1 rfl (c_X3_load l hlst G L F m0 c0 c1 c2 c3 c4 c5 c6 n now sk thr g hmo) (cwV 0 C.1.2.2.2.2 gL_law_X3_load rfl rfl rfl (by decide +kernel) ⟨Nat.le_of_ble_eq_true rfl, Nat.le_of_ble_eq_true rfl⟩) rfl (Nat.le_of_ble_eq_true rfl) ⟨Nat.le_trans (by omega) hce, Nat.le_trans (by omega) hsl⟩ dL_law_1037 (fun rv9 L2 F2 hp2 => ?_)
  obtain ⟨er, eL2, hm, hk2⟩ := hp2
  rw [er, eL2]
  refine z_stk (st' := [.int (nI (smV (fun j => fTk (g j)) n)), .int (nI (smV (fun j => fTk (fd j)) n))]) rfl ?_
  refine z_icmp_eq C 1196 True ⟨fun _ => trivial, fun _ => congrArg nI (hrl.sm (f := fTk) (fun a b h => h.tk))⟩ dL_law_1040 (by decide) (fun _ => ?_) (fun h9 => absurd trivial h9)
  refine z_sub (lv' := [(0, .ref b), (1, .ref a0), (2, .ref m0), (3, .ref o0), (4, .int (nI i))]) [0, 1, 2, 3, 4] rfl ?_
  refine z_wide (ce + 4) (sl + 34) (by omega) (by omega) ?_
  exact K L F2 n now sk fd g (by omega) ⟨hcl.offM (mKeep hk2), ⟨_, hm⟩, hrl, hLo, ⟨fo, (oKeep hmo ⟨fo, hFo⟩ hk2).trans hFo⟩⟩

set_option maxHeartbeats 4000000 in
set_option maxRecDepth 100000 in
theorem lc_spread {p : Program} {e : Env} {s : State} {m : MethodId} {args : Array Value} {below : List Frame} {meth : Method} {c : Code} {G : zGt} {A : Nat → Prop} {Q : State → Prop} {b N i ce sl : Nat} {xs : Nat → Int32} {L : List Nat} {F : Nat → va_E} {a0 m0 c0 c1 c2 c3 c4 c5 c6 o0 n now sk : Nat} {fd g : Nat → FdT} (l : Launch) (hlst : l.stackTraces = false) (hX : zLX p l s m args meth c b N xs G A) (hi : i + 3 < N) (hI : zLI G L F a0 m0 c0 c1 c2 c3 c4 c5 c6 o0 n now sk fd g) (hn9 : now ≤ 59900) (hce : ce + 4 ≤ 601024) (hsl : sl + 34 ≤ 7293034) (K : zLK p l e s m args below meth c G A Q b i ce sl a0 m0 c0 c1 c2 c3 c4 c5 c6 o0 now) : zW p l e room_1 s m args below meth c 7 G A Q ce sl L F 1045 [(0, .ref b), (1, .ref a0), (2, .ref m0), (3, .ref o0), (4, .int (nI i))] [] := by
  obtain ⟨C, hX, hbl, hbA, hN⟩ := hX
  obtain ⟨hcl, ⟨thr, hmo⟩, hrl, hLo, ⟨fo, hFo⟩⟩ := hI
  obtain ⟨a1, a2, b4, b5, b6, b7, ad, hco⟩ := id hcl
  refine z_aload_n C dL_law_1045 rfl 1 rfl ?_
  refine z_callV (As := []) (st := []) (mc := 0) (ms := 0) C hco.1.1 hco.2.1 rfl (c_X2_spread l hlst G L F (zMs m0 c0 c1 c2 c3 c4 c5 c6 o0) a0 a1 a2 b4 b5 b6 b7 ad n now sk fd hco) (cwV 0 C.1.2.2.2.2 gL_law_X2_spread rfl rfl rfl (by decide +kernel) ⟨Nat.le_of_ble_eq_true rfl, Nat.le_of_ble_eq_true rfl⟩) rfl (Nat.le_of_ble_eq_true rfl) ⟨Nat.le_trans (by omega) hce, Nat.le_trans (by omega) hsl⟩ dL_law_1046 (z_p ?_)
  refine z_stk (st' := [.int (nI ((spT fd n).2.2 - (spT fd n).2.1))]) rfl ?_
  refine z_aload_n C dL_law_1049 rfl 2 rfl ?_
  refine z_callV (As := []) (st := [.int (nI ((spT fd n).2.2 - (spT fd n).2.1))]) (mc := 0) (ms := 0) C hmo.1.1 hmo.2.1.1 rfl (c_X3_spread l hlst G L F m0 c0 c1 c2 c3 c4 c5 c6 n now sk thr g hmo) (cwV 0 C.1.2.2.2.2 gL_law_X3_spread rfl rfl rfl (by decide +kernel) ⟨Nat.le_of_ble_eq_true rfl, Nat.le_of_ble_eq_true rfl⟩) rfl (Nat.le_of_ble_eq_true rfl) ⟨Nat.le_trans (by omega) hce, Nat.le_trans (by omega) hsl⟩ dL_law_1050 (fun rv9 L2 F2 hp2 => ?_)
  obtain ⟨er, eL2, hm, hk2⟩ := hp2
  rw [er, eL2]
  refine z_stk (st' := [.int (nI ((spT g n).2.2 - (spT g n).2.1)), .int (nI ((spT fd n).2.2 - (spT fd n).2.1))]) rfl ?_
  refine z_icmp_eq C 1196 True ⟨fun _ => trivial, fun _ => by rw [hrl.sp]⟩ dL_law_1053 (by decide) (fun _ => ?_) (fun h9 => absurd trivial h9)
  refine z_sub (lv' := [(0, .ref b), (1, .ref a0), (2, .ref m0), (3, .ref o0), (4, .int (nI i))]) [0, 1, 2, 3, 4] rfl ?_
  refine z_wide (ce + 4) (sl + 34) (by omega) (by omega) ?_
  exact K L F2 n now sk fd g (by omega) ⟨hcl.offM (mKeep hk2), ⟨_, hm⟩, hrl, hLo, ⟨fo, (oKeep hmo ⟨fo, hFo⟩ hk2).trans hFo⟩⟩

set_option maxHeartbeats 4000000 in
set_option maxRecDepth 100000 in
theorem lc_mostCut {p : Program} {e : Env} {s : State} {m : MethodId} {args : Array Value} {below : List Frame} {meth : Method} {c : Code} {G : zGt} {A : Nat → Prop} {Q : State → Prop} {b N i ce sl : Nat} {xs : Nat → Int32} {L : List Nat} {F : Nat → va_E} {a0 m0 c0 c1 c2 c3 c4 c5 c6 o0 n now sk : Nat} {fd g : Nat → FdT} (l : Launch) (hlst : l.stackTraces = false) (hX : zLX p l s m args meth c b N xs G A) (hi : i + 3 < N) (hI : zLI G L F a0 m0 c0 c1 c2 c3 c4 c5 c6 o0 n now sk fd g) (hn9 : now ≤ 59900) (hce : ce + 4 ≤ 601024) (hsl : sl + 34 ≤ 7293034) (K : zLK p l e s m args below meth c G A Q b i ce sl a0 m0 c0 c1 c2 c3 c4 c5 c6 o0 now) : zW p l e room_1 s m args below meth c 7 G A Q ce sl L F 1170 [(0, .ref b), (1, .ref a0), (2, .ref m0), (3, .ref o0), (4, .int (nI i))] [] := by
  obtain ⟨C, hX, hbl, hbA, hN⟩ := hX
  obtain ⟨hcl, ⟨thr, hmo⟩, hrl, hLo, ⟨fo, hFo⟩⟩ := hI
  obtain ⟨a1, a2, b4, b5, b6, b7, ad, hco⟩ := id hcl
  refine z_aload_n C dL_law_1170 rfl 1 rfl ?_
  refine z_callV (As := []) (st := []) (mc := 0) (ms := 0) C hco.1.1 hco.2.1 rfl (c_X2_mostCut l hlst G L F (zMs m0 c0 c1 c2 c3 c4 c5 c6 o0) a0 a1 a2 b4 b5 b6 b7 ad n now sk fd hco) (cwV 0 C.1.2.2.2.2 gL_law_X2_mostCut rfl rfl rfl (by decide +kernel) ⟨Nat.le_of_ble_eq_true rfl, Nat.le_of_ble_eq_true rfl⟩) rfl (Nat.le_of_ble_eq_true rfl) ⟨Nat.le_trans (by omega) hce, Nat.le_trans (by omega) hsl⟩ dL_law_1171 (z_p ?_)
  refine z_stk (st' := [.int (mcI (mcT fd n))]) rfl ?_
  refine z_aload_n C dL_law_1174 rfl 2 rfl ?_
  refine z_callV (As := []) (st := [.int (mcI (mcT fd n))]) (mc := 0) (ms := 0) C hmo.1.1 hmo.2.1.1 rfl (c_X3_mostCut l hlst G L F m0 c0 c1 c2 c3 c4 c5 c6 n now sk thr g hmo) (cwV 0 C.1.2.2.2.2 gL_law_X3_mostCut rfl rfl rfl (by decide +kernel) ⟨Nat.le_of_ble_eq_true rfl, Nat.le_of_ble_eq_true rfl⟩) rfl (Nat.le_of_ble_eq_true rfl) ⟨Nat.le_trans (by omega) hce, Nat.le_trans (by omega) hsl⟩ dL_law_1175 (fun rv9 L2 F2 hp2 => ?_)
  obtain ⟨er, eL2, hm, hk2⟩ := hp2
  rw [er, eL2]
  refine z_stk (st' := [.int (mcI (mcT g n)), .int (mcI (mcT fd n))]) rfl ?_
  refine z_icmp_eq C 1196 True ⟨fun _ => trivial, fun _ => by rw [hrl.mc]⟩ dL_law_1178 (by decide) (fun _ => ?_) (fun h9 => absurd trivial h9)
  refine z_sub (lv' := [(0, .ref b), (1, .ref a0), (2, .ref m0), (3, .ref o0), (4, .int (nI i))]) [0, 1, 2, 3, 4] rfl ?_
  refine z_wide (ce + 4) (sl + 34) (by omega) (by omega) ?_
  exact K L F2 n now sk fd g (by omega) ⟨hcl.offM (mKeep hk2), ⟨_, hm⟩, hrl, hLo, ⟨fo, (oKeep hmo ⟨fo, hFo⟩ hk2).trans hFo⟩⟩

set_option maxHeartbeats 4000000 in
set_option maxRecDepth 100000 in
theorem lc_loadRestored {p : Program} {e : Env} {s : State} {m : MethodId} {args : Array Value} {below : List Frame} {meth : Method} {c : Code} {G : zGt} {A : Nat → Prop} {Q : State → Prop} {b N i ce sl : Nat} {xs : Nat → Int32} {L : List Nat} {F : Nat → va_E} {a0 m0 c0 c1 c2 c3 c4 c5 c6 o0 n now sk : Nat} {fd g : Nat → FdT} (l : Launch) (hlst : l.stackTraces = false) (hX : zLX p l s m args meth c b N xs G A) (hi : i + 3 < N) (hI : zLI G L F a0 m0 c0 c1 c2 c3 c4 c5 c6 o0 n now sk fd g) (hn9 : now ≤ 59900) (hce : ce + 4 ≤ 601024) (hsl : sl + 34 ≤ 7293034) (K : zLK p l e s m args below meth c G A Q b i ce sl a0 m0 c0 c1 c2 c3 c4 c5 c6 o0 now) : zW p l e room_1 s m args below meth c 7 G A Q ce sl L F 1183 [(0, .ref b), (1, .ref a0), (2, .ref m0), (3, .ref o0), (4, .int (nI i))] [] := by
  obtain ⟨C, hX, hbl, hbA, hN⟩ := hX
  obtain ⟨hcl, ⟨thr, hmo⟩, hrl, hLo, ⟨fo, hFo⟩⟩ := hI
  obtain ⟨a1, a2, b4, b5, b6, b7, ad, hco⟩ := id hcl
  refine z_aload_n C dL_law_1183 rfl 1 rfl ?_
  refine z_callV (As := []) (st := []) (mc := 0) (ms := 0) C hco.1.1 hco.2.1 rfl (c_X2_loadRestored l hlst G L F (zMs m0 c0 c1 c2 c3 c4 c5 c6 o0) a0 a1 a2 b4 b5 b6 b7 ad n now sk fd hco) (cwV 0 C.1.2.2.2.2 gL_law_X2_loadRestored rfl rfl rfl (by decide +kernel) ⟨Nat.le_of_ble_eq_true rfl, Nat.le_of_ble_eq_true rfl⟩) rfl (Nat.le_of_ble_eq_true rfl) ⟨Nat.le_trans (by omega) hce, Nat.le_trans (by omega) hsl⟩ dL_law_1184 (z_p ?_)
  refine z_stk (st' := [.int (nI (smV (fun j => fRs (fd j)) n))]) rfl ?_
  refine z_aload_n C dL_law_1187 rfl 2 rfl ?_
  refine z_callV (As := []) (st := [.int (nI (smV (fun j => fRs (fd j)) n))]) (mc := 0) (ms := 0) C hmo.1.1 hmo.2.1.1 rfl (c_X3_loadRestored l hlst G L F m0 c0 c1 c2 c3 c4 c5 c6 n now sk thr g hmo) (cwV 0 C.1.2.2.2.2 gL_law_X3_loadRestored rfl rfl rfl (by decide +kernel) ⟨Nat.le_of_ble_eq_true rfl, Nat.le_of_ble_eq_true rfl⟩) rfl (Nat.le_of_ble_eq_true rfl) ⟨Nat.le_trans (by omega) hce, Nat.le_trans (by omega) hsl⟩ dL_law_1188 (fun rv9 L2 F2 hp2 => ?_)
  obtain ⟨er, eL2, hm, hk2⟩ := hp2
  rw [er, eL2]
  refine z_stk (st' := [.int (nI (smV (fun j => fRs (g j)) n)), .int (nI (smV (fun j => fRs (fd j)) n))]) rfl ?_
  refine z_icmp_eq C 1196 True ⟨fun _ => trivial, fun _ => congrArg nI (hrl.sm (f := fRs) (fun a b h => h.rs))⟩ dL_law_1191 (by decide) (fun _ => ?_) (fun h9 => absurd trivial h9)
  refine z_sub (lv' := [(0, .ref b), (1, .ref a0), (2, .ref m0), (3, .ref o0), (4, .int (nI i))]) [0, 1, 2, 3, 4] rfl ?_
  refine z_wide (ce + 4) (sl + 34) (by omega) (by omega) ?_
  exact K L F2 n now sk fd g (by omega) ⟨hcl.offM (mKeep hk2), ⟨_, hm⟩, hrl, hLo, ⟨fo, (oKeep hmo ⟨fo, hFo⟩ hk2).trans hFo⟩⟩
