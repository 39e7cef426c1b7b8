set_option maxHeartbeats 4000000 in
set_option maxRecDepth 100000 in
theorem law_A {p : Program} {e : Env} {s : State} {m : MethodId} {args : Array Value} {below : List Frame} {meth : Method} {c : Code} {G : zGt} {A : Nat → Prop} {Q : State → Prop} {b N ce cs : Nat} {xs : Nat → Int32} {L : List Nat} {F : Nat → va_E} {a0 n now sl t : Nat} {fd : Nat → FdT} (l : Launch) (hlst : l.stackTraces = false) (hX : zLX p l s m args meth c b N xs G A) (hcl : zCl G zNo L F a0 n now sl fd) (hz : fZ n fd) (ht : t < 30) (hce : ce + 16 ≤ 600130) (hcs : cs + 100 ≤ 7301080) (K : ∀ (X Y : Nat), X < 2147483648 → Y < 2147483648 → zW p l e room_1 s m args below meth c 8 G A Q ce cs L F 44 [(0, .ref b), (1, .ref a0), (2, .int (nI (cW fd n))), (3, .int (nI t)), (4, .int (nI X)), (5, .int (nI Y))] []) : zW p l e room_1 s m args below meth c 8 G A Q ce cs L F 12 [(0, .ref b), (1, .ref a0), (2, .int (nI (cW fd n))), (3, .int (nI t))] [] := by
  obtain ⟨C, hXx, hbl, hbA, hN⟩ := id hX
  obtain ⟨a1, a2, b4, b5, b6, b7, ad, hco⟩ := id hcl
  have hL_hco := hco.1.1
  have hF_hco := hco.2.1
  obtain ⟨hn_hco, hnow_hco, hsl_hco⟩ := hco.2.2.2.2.2.2.2.1
  have ok_hco : ∀ j, j < n → fOk now (fd j) := fun j hj => (hco.2.2.2.2.2.1 j hj).2.2.1
  refine z_iload_n C dL_law_12 rfl 3 rfl ?_
  refine z_bipush C (nI 30) dL_law_13 (by decide) ?_
  refine z_icmp_ge C 289 (((30 : Nat) : Int) ≤ ((t : Nat) : Int)) (zi_le (zi_N (n := 30) (by omega)) (zi_N (n := t) (by omega))) dL_law_15 (by decide) (fun c1_ => absurd c1_ (by omega)) (fun c1_ => ?_)
  refine z_aload_n C dL_law_18 rfl 0 rfl ?_
  refine z_iconst C (nI 2) dL_law_19 (by decide) ?_
  refine z_iload_n C dL_law_20 rfl 3 rfl ?_
  refine z_imul C (nI (2 * t)) dL_law_21 (pk_mul 2 t) ?_
  refine z_callSS (As := [.ref b, .int (nI (2 * t))]) (st := []) (mc := 0) (ms := 0) C hXx hbl hbA (c_L_cell l hlst G L F b N xs hN (2 * t) (by omega)) (va_cwS 2 C.1.2.2.2.2 gL_law_L_cell rfl rfl rfl (by decide +kernel) ⟨Nat.le_of_ble_eq_true rfl, Nat.le_of_ble_eq_true rfl⟩) rfl (Nat.le_of_ble_eq_true rfl) ⟨Nat.le_trans (by omega) hce, Nat.le_trans (by omega) hcs⟩ dL_law_22 (fun rv9 L9 F9 hp9 => ?_)
  obtain ⟨v22, e91, e92, e93⟩ := hp9
  rw [e91, e92, e93]
  refine z_stk (st' := [.int v22]) rfl ?_
  refine z_ldcI C (nI 2147483647) (by decide +kernel) dL_law_25 ?_
  obtain ⟨X, hX2, eX⟩ := pk_andE v22 (m := nI 2147483647) 31 (by decide)
  refine z_iand C (nI X) dL_law_27 (eX) ?_
  refine z_istore (lv' := [(4, .int (nI X)), (0, .ref b), (1, .ref a0), (2, .int (nI (cW fd n))), (3, .int (nI t))]) C dL_law_28 (by decide) rfl ?_
  refine z_aload_n C dL_law_30 rfl 1 rfl ?_
  refine z_iconst C (nI 2) dL_law_31 (by decide) ?_
  refine z_iload_n C dL_law_32 rfl 4 rfl ?_
  refine z_imul C (nI (2 * t)) dL_law_33 (pk_mul 2 t) ?_
  refine z_iconst C (nI 1) dL_law_34 (by decide) ?_
  refine z_iadd C (nI (2 * t + 1)) dL_law_35 (nI_add (2 * t) 1) ?_
  refine z_callSS (As := [.ref b, .int (nI (2 * t + 1))]) (st := []) (mc := 0) (ms := 0) C hXx hbl hbA (c_L_cell l hlst G L F b N xs hN (2 * t + 1) (by omega)) (va_cwS 2 C.1.2.2.2.2 gL_law_L_cell rfl rfl rfl (by decide +kernel) ⟨Nat.le_of_ble_eq_true rfl, Nat.le_of_ble_eq_true rfl⟩) rfl (Nat.le_of_ble_eq_true rfl) ⟨Nat.le_trans (by omega) hce, Nat.le_trans (by omega) hcs⟩ dL_law_36 (fun rv9 L9 F9 hp9 => ?_)
  obtain ⟨v36, e91, e92, e93⟩ := hp9
  rw [e91, e92, e93]
  refine z_stk (st' := [.int v36]) rfl ?_
  refine z_ldcI C (nI 2147483647) (by decide +kernel) dL_law_39 ?_
  obtain ⟨Y, hY2, eY⟩ := pk_andE v36 (m := nI 2147483647) 31 (by decide)
  refine z_iand C (nI Y) dL_law_41 (eY) ?_
  refine z_istore (lv' := [(5, .int (nI Y)), (4, .int (nI X)), (0, .ref b), (1, .ref a0), (2, .int (nI (cW fd n))), (3, .int (nI t))]) C dL_law_42 (by decide) rfl ?_
  refine z_sub (lv' := [(0, .ref b), (1, .ref a0), (2, .int (nI (cW fd n))), (3, .int (nI t)), (4, .int (nI X)), (5, .int (nI Y))]) [2, 3, 4, 5, 1, 0] rfl ?_
  exact K X Y (by omega) (by omega)
