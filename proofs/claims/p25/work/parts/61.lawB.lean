set_option maxHeartbeats 4000000 in
set_option maxRecDepth 100000 in
theorem law_B {p : Program} {e : Env} {s : State} {m : MethodId} {args : Array Value} {below : List Frame} {meth : Method} {c : Code} {G : zGt} {A : Nat → Prop} {Q : State → Prop} {b N ce cs : Nat} {xs : Nat → Int32} {L : List Nat} {F : Nat → va_E} {a0 n now sl t : Nat} {fd : Nat → FdT} (l : Launch) (hlst : l.stackTraces = false) (hX : zLX p l s m args meth c b N xs G A) (hcl : zCl G zNo L F a0 n now sl fd) (hz : fZ n fd) (ht : t < 30) {X Y : Nat} (hX2 : X < 2147483648) (hY2 : Y < 2147483648) (ht1 : 1 ≤ t → 1 ≤ n) (hce : ce + 16 ≤ 600130) (hcs : cs + 100 ≤ 7301080) (K : ∀ (L : List Nat) (F : Nat → va_E) (n9 : Nat) (fd9 : Nat → FdT), zCl G zNo L F a0 n9 now sl fd9 → fZ n9 fd9 → 1 ≤ n9 → zW p l e room_1 s m args below meth c 8 G A Q (ce + 4) (cs + 34) L F 144 [(0, .ref b), (1, .ref a0), (2, .int (nI (cW fd9 n9))), (3, .int (nI t)), (4, .int (nI X)), (5, .int (nI Y))] []) : zW p l e room_1 s m args below meth c 8 G A Q ce cs L F 44 [(0, .ref b), (1, .ref a0), (2, .int (nI (cW fd n))), (3, .int (nI t)), (4, .int (nI X)), (5, .int (nI Y))] [] := by
  obtain ⟨C, hXx, hbl, hbA, hN⟩ := id hX
  obtain ⟨a1, a2, b4, b5, b6, b7, ad, hco⟩ := id hcl
  have hL_hco := hco.1.1
  have hF_hco := hco.2.1
  obtain ⟨hn_hco, hnow_hco, hsl_hco⟩ := hco.2.2.2.2.2.2.2.1
  have ok_hco : ∀ j, j < n → fOk now (fd j) := fun j hj => (hco.2.2.2.2.2.1 j hj).2.2.1
  refine z_aload_n C dL_law_44 rfl 1 rfl ?_
  refine z_callV (As := []) (st := []) (mc := 0) (ms := 0) C hL_hco hF_hco rfl (c_X2_feeders l hlst G L F zNo a0 a1 a2 b4 b5 b6 b7 ad n now sl fd hco) (cwV 0 C.1.2.2.2.2 gL_law_X2_feeders rfl rfl rfl (by decide +kernel) ⟨Nat.le_of_ble_eq_true rfl, Nat.le_of_ble_eq_true rfl⟩) rfl (Nat.le_of_ble_eq_true rfl) ⟨Nat.le_trans (by omega) hce, Nat.le_trans (by omega) hcs⟩ dL_law_45 (z_p ?_)
  refine z_stk (st' := [.int (nI n)]) rfl ?_
  refine z_bipush C (nI 12) dL_law_48 (by decide) ?_
  refine z_icmp_ge C 144 (((12 : Nat) : Int) ≤ ((n : Nat) : Int)) (zi_le (zi_N (n := 12) (by omega)) (zi_N (n := n) (by omega))) dL_law_50 (by decide) (fun c1_ => ?_) (fun c1_ => ?_)
  · -- 50 taken
    refine z_sub (lv' := [(0, .ref b), (1, .ref a0), (2, .int (nI (cW fd n))), (3, .int (nI t)), (4, .int (nI X)), (5, .int (nI Y))]) [0, 1, 2, 3, 4, 5] rfl ?_
    refine z_wide (ce + 4) (cs + 34) (by omega) (by omega) ?_
    exact K L F n fd hco.cl hz (by omega)
  · -- 50 not taken
    have j67 : zW p l e room_1 s m args below meth c 8 G A Q ce cs L F 67 [(0, .ref b), (1, .ref a0), (2, .int (nI (cW fd n))), (3, .int (nI t)), (4, .int (nI X)), (5, .int (nI Y))] [] := by
      have j83 : ∀ (kp : Nat) (hkp : kp ≤ 1), zW p l e room_1 s m args below meth c 8 G A Q ce cs L F 83 [(0, .ref b), (1, .ref a0), (2, .int (nI (cW fd n))), (3, .int (nI t)), (4, .int (nI X)), (5, .int (nI Y))] [.int (nI kp)] := by
        intro kp hkp
        refine z_istore (lv' := [(6, .int (nI kp)), (0, .ref b), (1, .ref a0), (2, .int (nI (cW fd n))), (3, .int (nI t)), (4, .int (nI X)), (5, .int (nI Y))]) C dL_law_83 (by decide) rfl ?_
        refine z_aload_n C dL_law_85 rfl 2 rfl ?_
        refine z_iconst C (nI 1) dL_law_86 (by decide) ?_
        refine z_iload C dL_law_87 5 rfl ?_
        refine z_iconst C (nI 5) dL_law_89 (by decide) ?_
        refine z_ishr C (nI (X / 2 ^ 5)) dL_law_90 (bit_of (s := X) (k := 5) (by omega) (by decide)) ?_
        refine z_iload C dL_law_91 6 rfl ?_
        refine z_iconst C (nI 2) dL_law_93 (by decide) ?_
        refine z_callS (As := [.int (nI Y), .int (nI 2)]) (st := [.int (nI (X / 2 ^ 5)), .int (nI 1), .ref a0]) (mc := 0) (ms := 0) C (c_L_at l hlst G L F Y 2 (by omega) (by omega) (by omega)) (va_cwS 2 C.1.2.2.2.2 gL_law_L_at rfl rfl rfl (by decide +kernel) ⟨Nat.le_of_ble_eq_true rfl, Nat.le_of_ble_eq_true rfl⟩) rfl (Nat.le_of_ble_eq_true rfl) ⟨Nat.le_trans (by omega) hce, Nat.le_trans (by omega) hcs⟩ dL_law_94 (fun rv9 L9 F9 hp9 => ?_)
        obtain ⟨r94, hr94, e91, e92, e93⟩ := hp9
        rw [e91, e92, e93]
        refine z_stk (st' := [.int (nI r94), .int (nI (X / 2 ^ 5)), .int (nI 1), .ref a0]) rfl ?_
        have j108 : ∀ (d9 : Nat) (hd91 : 1 ≤ d9) (hd92 : d9 ≤ 999), zW p l e room_1 s m args below meth c 8 G A Q ce cs L F 108 [(6, .int (nI kp)), (0, .ref b), (1, .ref a0), (2, .int (nI (cW fd n))), (3, .int (nI t)), (4, .int (nI X)), (5, .int (nI Y))] [.int (nI d9), .int (nI (X / 2 ^ 5)), .int (nI 1), .ref a0] := by
          intro d9 hd91 hd92
          refine z_callS (As := [.int (nI (X / 2 ^ 5)), .int (nI d9)]) (st := [.int (nI 1), .ref a0]) (mc := 0) (ms := 0) C (c_L_at l hlst G L F (X / 2 ^ 5) d9 (by omega) (by omega) (by omega)) (va_cwS 2 C.1.2.2.2.2 gL_law_L_at rfl rfl rfl (by decide +kernel) ⟨Nat.le_of_ble_eq_true rfl, Nat.le_of_ble_eq_true rfl⟩) rfl (Nat.le_of_ble_eq_true rfl) ⟨Nat.le_trans (by omega) hce, Nat.le_trans (by omega) hcs⟩ dL_law_108 (fun rv9 L9 F9 hp9 => ?_)
          obtain ⟨r108, hr108, e91, e92, e93⟩ := hp9
          rw [e91, e92, e93]
          refine z_stk (st' := [.int (nI r108), .int (nI 1), .ref a0]) rfl ?_
          refine z_iadd C (nI (1 + r108)) dL_law_111 (nI_add 1 r108) ?_
          refine z_iload C dL_law_112 0 rfl ?_
          refine z_iload C dL_law_114 5 rfl ?_
          refine z_bipush C (nI 7) dL_law_116 (by decide) ?_
          refine z_ishr C (nI (X / 2 ^ 7)) dL_law_118 (bit_of (s := X) (k := 7) (by omega) (by decide)) ?_
          refine z_iconst C (nI 4) dL_law_119 (by decide) ?_
          refine z_callS (As := [.int (nI (X / 2 ^ 7)), .int (nI 4)]) (st := [.int (nI kp), .int (nI (1 + r108)), .ref a0]) (mc := 0) (ms := 0) C (c_L_at l hlst G L F (X / 2 ^ 7) 4 (by omega) (by omega) (by omega)) (va_cwS 2 C.1.2.2.2.2 gL_law_L_at rfl rfl rfl (by decide +kernel) ⟨Nat.le_of_ble_eq_true rfl, Nat.le_of_ble_eq_true rfl⟩) rfl (Nat.le_of_ble_eq_true rfl) ⟨Nat.le_trans (by omega) hce, Nat.le_trans (by omega) hcs⟩ dL_law_120 (fun rv9 L9 F9 hp9 => ?_)
          obtain ⟨r120, hr120, e91, e92, e93⟩ := hp9
          rw [e91, e92, e93]
          refine z_stk (st' := [.int (nI r120), .int (nI kp), .int (nI (1 + r108)), .ref a0]) rfl ?_
          refine z_callVX (As := [.int (nI (1 + r108)), .int (nI kp), .int (nI r120)]) (st := []) (mc := 4) (ms := 34) C hL_hco hF_hco rfl (c_X2_feeder l hlst G L F zNo a0 a1 a2 b4 b5 b6 b7 ad n now sl fd hco (nI (1 + r108)) (nI r120) kp (by omega) (fun _ h9 => h9.elim)) (cwV 3 C.1.2.2.2.2 gL_law_X2_feeder rfl rfl rfl (by decide +kernel) ⟨Nat.le_of_ble_eq_true rfl, Nat.le_of_ble_eq_true rfl⟩) rfl (Nat.le_of_ble_eq_true rfl) ⟨Nat.le_trans (by omega) hce, Nat.le_trans (by omega) hcs⟩ dL_law_123 (fun E9 L9 F9 hx => (by rcases hx.2.2 with hx | hx; exact absurd ⟨zIn_in (by decide) (by omega) (by omega) rfl, zIn_in (by decide) (by omega) (by omega) rfl⟩ hx.2; exact absurd hx.2.2.2 (by omega))) (fun rv9 LN FN hp9 => ?_)
          obtain ⟨j1, j3, e90, g91, g92, e93, g94, g95, e91, hLs, ⟨adN, hcoN⟩, hkM9⟩ := hp9
          obtain rfl : 1 + r108 = j1 := nIe (by omega) (by omega) e90
          obtain rfl : r120 = j3 := nIe (by omega) (by omega) e93
          rw [e91]
          refine z_stk (st' := [.int (nI n)]) rfl ?_
          have hzN := fZ_new (r := (r120, 1 + r108, kp, 0, 0, 0, 0)) hz rfl
          obtain ⟨gN, hgN⟩ : ∃ g, g = upF fd n (r120, 1 + r108, kp, 0, 0, 0, 0) := ⟨_, rfl⟩
          rw [← hgN] at hcoN hzN
          have hL_hcoN := hcoN.1.1
          have hF_hcoN := hcoN.2.1
          obtain ⟨hn_hcoN, hnow_hcoN, hsl_hcoN⟩ := hcoN.2.2.2.2.2.2.2.1
          have ok_hcoN : ∀ j, j < n + 1 → fOk now (gN j) := fun j hj => (hcoN.2.2.2.2.2.1 j hj).2.2.1
          refine z_istore (lv' := [(7, .int (nI n)), (6, .int (nI kp)), (0, .ref b), (1, .ref a0), (2, .int (nI (cW fd n))), (3, .int (nI t)), (4, .int (nI X)), (5, .int (nI Y))]) C dL_law_126 (by decide) rfl ?_
          refine z_iload_n C dL_law_128 rfl 4 rfl ?_
          refine z_iload C dL_law_129 1 rfl ?_
          refine z_if_eq C 141 (((kp : Nat) : Int) = (0 : Int)) (zi_eq (zi_N (n := kp) (by omega)) zi_0) dL_law_131 (by decide) (fun c2_ => ?_) (fun c2_ => ?_)
          · -- 131 taken
            refine z_iconst C (nI 0) dL_law_141 (by decide) ?_
            refine z_ior C (nI (cW gN (n + 1))) dL_law_142 ((by rw [hgN]; exact cw_miss (by show ¬ kp = 1; omega))) ?_
            refine z_istore_n (lv' := [(2, .int (nI (cW gN (n + 1)))), (7, .int (nI n)), (6, .int (nI kp)), (0, .ref b), (1, .ref a0), (3, .int (nI t)), (4, .int (nI X)), (5, .int (nI Y))]) C dL_law_143 rfl (by decide) rfl ?_
            refine z_sub (lv' := [(0, .ref b), (1, .ref a0), (2, .int (nI (cW gN (n + 1)))), (3, .int (nI t)), (4, .int (nI X)), (5, .int (nI Y))]) [3, 4, 0, 5, 6, 7] rfl ?_
            refine z_wide (ce + 4) (cs + 34) (by omega) (by omega) ?_
            exact K LN FN (n + 1) gN hcoN.cl hzN (by omega)
          · -- 131 not taken
            refine z_iconst C (nI 1) dL_law_134 (by decide) ?_
            refine z_iload C dL_law_135 0 rfl ?_
            refine z_ishl C (nI (2 ^ n)) dL_law_137 (shl1 (n := n) (by omega)) ?_
            refine z_goto C 142 dL_law_138 (by decide) ?_
            refine z_ior C (nI (cW gN (n + 1))) dL_law_142 ((by rw [hgN]; exact cw_hit (by show kp = 1; omega))) ?_
            refine z_istore_n (lv' := [(2, .int (nI (cW gN (n + 1)))), (7, .int (nI n)), (6, .int (nI kp)), (0, .ref b), (1, .ref a0), (3, .int (nI t)), (4, .int (nI X)), (5, .int (nI Y))]) C dL_law_143 rfl (by decide) rfl ?_
            refine z_sub (lv' := [(0, .ref b), (1, .ref a0), (2, .int (nI (cW gN (n + 1)))), (3, .int (nI t)), (4, .int (nI X)), (5, .int (nI Y))]) [3, 4, 0, 5, 6, 7] rfl ?_
            refine z_wide (ce + 4) (cs + 34) (by omega) (by omega) ?_
            exact K LN FN (n + 1) gN hcoN.cl hzN (by omega)
        refine z_if_ne C 106 (((r94 : Nat) : Int) = (0 : Int)) (zi_eq (zi_N (n := r94) (by omega)) zi_0) dL_law_97 (by decide) (fun c3_ => ?_) (fun c3_ => ?_)
        · -- 97 taken
          refine z_bipush C (nI 40) dL_law_106 (by decide) ?_
          exact j108 40 (by decide) (by decide)
        · -- 97 not taken
          refine z_sipush C (nI 999) dL_law_100 (by decide) ?_
          refine z_goto C 108 dL_law_103 (by decide) ?_
          exact j108 999 (by decide) (by decide)
      refine z_iload C dL_law_67 4 rfl ?_
      refine z_iconst C (nI 3) dL_law_69 (by decide) ?_
      refine z_ishr C (nI (X / 2 ^ 3)) dL_law_70 (bit_of (s := X) (k := 3) (by omega) (by decide)) ?_
      refine z_iconst C (nI 5) dL_law_71 (by decide) ?_
      refine z_callS (As := [.int (nI (X / 2 ^ 3)), .int (nI 5)]) (st := []) (mc := 0) (ms := 0) C (c_L_at l hlst G L F (X / 2 ^ 3) 5 (by omega) (by omega) (by omega)) (va_cwS 2 C.1.2.2.2.2 gL_law_L_at rfl rfl rfl (by decide +kernel) ⟨Nat.le_of_ble_eq_true rfl, Nat.le_of_ble_eq_true rfl⟩) rfl (Nat.le_of_ble_eq_true rfl) ⟨Nat.le_trans (by omega) hce, Nat.le_trans (by omega) hcs⟩ dL_law_72 (fun rv9 L9 F9 hp9 => ?_)
      obtain ⟨r72, hr72, e91, e92, e93⟩ := hp9
      rw [e91, e92, e93]
      refine z_stk (st' := [.int (nI r72)]) rfl ?_
      refine z_if_ne C 82 (((r72 : Nat) : Int) = (0 : Int)) (zi_eq (zi_N (n := r72) (by omega)) zi_0) dL_law_75 (by decide) (fun c4_ => ?_) (fun c4_ => ?_)
      · -- 75 taken
        refine z_iconst C (nI 0) dL_law_82 (by decide) ?_
        exact j83 0 (by decide)
      · -- 75 not taken
        refine z_iconst C (nI 1) dL_law_78 (by decide) ?_
        refine z_goto C 83 dL_law_79 (by decide) ?_
        exact j83 1 (by decide)
    refine z_iload_n C dL_law_53 rfl 3 rfl ?_
    refine z_iconst C (nI 4) dL_law_54 (by decide) ?_
    refine z_icmp_lt C 67 (((t : Nat) : Int) < ((4 : Nat) : Int)) (zi_lt (zi_N (n := t) (by omega)) (zi_N (n := 4) (by omega))) dL_law_55 (by decide) (fun c5_ => ?_) (fun c5_ => ?_)
    · -- 55 taken
      exact j67
    · -- 55 not taken
      refine z_iload C dL_law_58 4 rfl ?_
      refine z_iconst C (nI 4) dL_law_60 (by decide) ?_
      refine z_callS (As := [.int (nI X), .int (nI 4)]) (st := []) (mc := 0) (ms := 0) C (c_L_at l hlst G L F X 4 (by omega) (by omega) (by omega)) (va_cwS 2 C.1.2.2.2.2 gL_law_L_at rfl rfl rfl (by decide +kernel) ⟨Nat.le_of_ble_eq_true rfl, Nat.le_of_ble_eq_true rfl⟩) rfl (Nat.le_of_ble_eq_true rfl) ⟨Nat.le_trans (by omega) hce, Nat.le_trans (by omega) hcs⟩ dL_law_61 (fun rv9 L9 F9 hp9 => ?_)
      obtain ⟨r61, hr61, e91, e92, e93⟩ := hp9
      rw [e91, e92, e93]
      refine z_stk (st' := [.int (nI r61)]) rfl ?_
      refine z_if_ne C 144 (((r61 : Nat) : Int) = (0 : Int)) (zi_eq (zi_N (n := r61) (by omega)) zi_0) dL_law_64 (by decide) (fun c6_ => ?_) (fun c6_ => ?_)
      · -- 64 taken
        refine z_sub (lv' := [(0, .ref b), (1, .ref a0), (2, .int (nI (cW fd n))), (3, .int (nI t)), (4, .int (nI X)), (5, .int (nI Y))]) [0, 1, 2, 3, 4, 5] rfl ?_
        refine z_wide (ce + 4) (cs + 34) (by omega) (by omega) ?_
        exact K L F n fd hco.cl hz (by omega)
      · -- 64 not taken
        exact j67
