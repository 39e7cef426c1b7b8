set_option maxHeartbeats 4000000 in
set_option maxRecDepth 100000 in
theorem law_loop {p : Program} {e : Env} {s : State} {m : MethodId} {args : Array Value} {below : List Frame} {meth : Method} {c : Code} {G : zGt} {A : Nat → Prop} {Q : State → Prop} {b N : Nat} {xs : Nat → Int32} {a0 : Nat} (l : Launch) (hlst : l.stackTraces = false) (hX : zLX p l s m args meth c b N xs G A)
    (hend : ∀ (L : List Nat) (F : Nat → va_E) (ce cs : Nat) (lv : List (Nat × Value)), ce ≤ 600130 → cs ≤ 7301080 → zW p l e room_1 s m args below meth c 8 G A Q ce cs L F 289 lv []) :
    ∀ (T t ce cs : Nat) (L : List Nat) (F : Nat → va_E) (n now sl : Nat) (fd : Nat → FdT), t + T = 30 → ce ≤ 20 + 20 * t → cs ≤ 200 + 140 * t → now ≤ 10 * t → (1 ≤ t → 1 ≤ n) → zCl G zNo L F a0 n now sl fd → fZ n fd → zW p l e room_1 s m args below meth c 8 G A Q ce cs L F 12 [(0, .ref b), (1, .ref a0), (2, .int (nI (cW fd n))), (3, .int (nI t))] [] := by
  intro T
  induction T with
  | zero =>
    intro t ce cs L F n now sl fd h1 h2 h3 h4 h5 hcl hz
    obtain ⟨C, hXx, hbl, hbA, hN⟩ := id hX
    refine z_iload_n C dL_law_12 rfl 3 rfl ?_
    refine z_bipush C (nI 30) dL_law_13 (by decide) ?_
    refine z_icmp_ge C 289 (((30 : Nat) : Int) ≤ ((t : Nat) : Int)) (zi_le (zi_N (n := 30) (by omega)) (zi_N (n := t) (by omega))) dL_law_15 (by decide) (fun c1 => ?_) (fun c1 => absurd c1 (by omega))
    exact hend _ _ _ _ _ (by omega) (by omega)
  | succ T ih =>
    intro t ce cs L F n now sl fd h1 h2 h3 h4 h5 hcl hz
    obtain ⟨C, hXx, hbl, hbA, hN⟩ := id hX
    refine law_A l hlst hX hcl hz (by omega) (by omega) (by omega) (fun X Y hX2 hY2 => ?_)
    refine law_B l hlst hX hcl hz (by omega) hX2 hY2 h5 (by omega) (by omega) (fun L2 F2 n2 fd2 hcl2 hz2 h1n => ?_)
    refine law_C l hlst hX hcl2 hz2 (by omega) hX2 hY2 h1n (by omega) (by omega) (by omega) (fun L3 F3 n3 now3 sl3 fd3 hcl3 hz3 h3n h3now => ?_)
    refine z_iinc (v := nI (t + 1)) (lv' := [(3, .int (nI (t + 1))), (0, .ref b), (1, .ref a0), (2, .int (nI (cW fd3 n3)))]) C dL_law_283 3 rfl (nI_add t 1) (by decide) rfl ?_
    refine z_goto C 12 dL_law_286 (by decide) ?_
    refine z_sub (lv' := [(0, .ref b), (1, .ref a0), (2, .int (nI (cW fd3 n3))), (3, .int (nI (t + 1)))]) [1, 2, 3, 0] rfl ?_
    exact ih (t + 1) (ce + 4 + 16) (cs + 34 + 100) L3 F3 n3 now3 sl3 fd3 (by omega) (by omega) (by omega) (by omega) (fun _ => h3n) hcl3 hz3
