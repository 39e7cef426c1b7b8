set_option maxHeartbeats 4000000 in
set_option maxRecDepth 100000 in
theorem law_C {p : Program} {e : Env} {s : State} {m : MethodId} {args : Array Value} {below : List Frame} {meth : Method} {c : Code} {G : zGt} {A : Nat → Prop} {Q : State → Prop} {b N ce cs : Nat} {xs : Nat → Int32} {L : List Nat} {F : Nat → va_E} {a0 n now sl t : Nat} {fd : Nat → FdT} (l : Launch) (hlst : l.stackTraces = false) (hX : zLX p l s m args meth c b N xs G A) (hcl : zCl G zNo L F a0 n now sl fd) (hz : fZ n fd) (ht : t < 30) {X Y : Nat} (hX2 : X < 2147483648) (hY2 : Y < 2147483648) (h1n : 1 ≤ n) (hn9 : now ≤ 59000) (hce : ce + 16 ≤ 600130) (hcs : cs + 100 ≤ 7301080) (K : ∀ (L : List Nat) (F : Nat → va_E) (n9 now9 sl9 : Nat) (fd9 : Nat → FdT), zCl G zNo L F a0 n9 now9 sl9 fd9 → fZ n9 fd9 → 1 ≤ n9 → now9 ≤ now + 10 → zW p l e room_1 s m args below meth c 8 G A Q (ce + 16) (cs + 100) L F 283 [(0, .ref b), (1, .ref a0), (2, .int (nI (cW fd9 n9))), (3, .int (nI t))] []) : zW p l e room_1 s m args below meth c 8 G A Q ce cs L F 144 [(0, .ref b), (1, .ref a0), (2, .int (nI (cW fd n))), (3, .int (nI t)), (4, .int (nI X)), (5, .int (nI Y))] [] := by
  obtain ⟨C, hXx, hbl, hbA, hN⟩ := id hX
  obtain ⟨a1, a2, b4, b5, b6, b7, ad, hco⟩ := id hcl
  have hL_hco := hco.1.1
  have hF_hco := hco.2.1
  obtain ⟨hn_hco, hnow_hco, hsl_hco⟩ := hco.2.2.2.2.2.2.2.1
  have ok_hco : ∀ j, j < n → fOk now (fd j) := fun j hj => (hco.2.2.2.2.2.1 j hj).2.2.1
  refine z_aload_n C dL_law_144 rfl 1 rfl ?_
  refine z_iload C dL_law_145 5 rfl ?_
  refine z_iconst C (nI 2) dL_law_147 (by decide) ?_
  refine z_ishr C (nI (Y / 2 ^ 2)) dL_law_148 (bit_of (s := Y) (k := 2) (by omega) (by decide)) ?_
  refine z_bipush C (nI 60) dL_law_149 (by decide) ?_
  refine z_callS (As := [.int (nI (Y / 2 ^ 2)), .int (nI 60)]) (st := [.ref a0]) (mc := 0) (ms := 0) C (c_L_at l hlst G L F (Y / 2 ^ 2) 60 (by omega) (by omega) (by omega)) (va_cwS 2 C.1.2.2.2.2 gL_law_L_at rfl rfl rfl (by decide +kernel) ⟨Nat.le_of_ble_eq_true rfl, Nat.le_of_ble_eq_true rfl⟩) rfl (Nat.le_of_ble_eq_true rfl) ⟨Nat.le_trans (by omega) hce, Nat.le_trans (by omega) hcs⟩ dL_law_151 (fun rv9 L9 F9 hp9 => ?_)
  obtain ⟨r151, hr151, e91, e92, e93⟩ := hp9
  rw [e91, e92, e93]
  refine z_stk (st' := [.int (nI r151), .ref a0]) rfl ?_
  refine z_callVX (As := [.int (nI r151)]) (st := []) (mc := 1) (ms := 6) C hL_hco hF_hco rfl (c_X2_setSlack l hlst G L F zNo a0 a1 a2 b4 b5 b6 b7 ad n now sl fd hco (nI r151)) (cwV 1 C.1.2.2.2.2 gL_law_X2_setSlack rfl rfl rfl (by decide +kernel) ⟨Nat.le_of_ble_eq_true rfl, Nat.le_of_ble_eq_true rfl⟩) rfl (Nat.le_of_ble_eq_true rfl) ⟨Nat.le_trans (by omega) hce, Nat.le_trans (by omega) hcs⟩ dL_law_154 (fun E9 L9 F9 hx => absurd (zIn_in (by decide) (by omega) (by omega) rfl) hx.2.2.2) (fun rv9 L9 FS hp9 => ?_)
  obtain ⟨j9, e90, g91, e91, e92, hcoS, hkM9⟩ := hp9
  obtain rfl : r151 = j9 := nIe (by omega) (by omega) e90
  rw [e91, e92]
  refine z_stk (st' := [.int (nI sl)]) rfl ?_
  have hL_hcoS := hcoS.1.1
  have hF_hcoS := hcoS.2.1
  obtain ⟨hn_hcoS, hnow_hcoS, hsl_hcoS⟩ := hcoS.2.2.2.2.2.2.2.1
  have ok_hcoS : ∀ j, j < n → fOk now (fd j) := fun j hj => (hcoS.2.2.2.2.2.1 j hj).2.2.1
  refine z_if_lt C 185 (((sl : Nat) : Int) < (0 : Int)) (zi_lt (zi_N (n := sl) (by omega)) zi_0) dL_law_157 (by decide) (fun c1_ => absurd c1_ (by omega)) (fun c1_ => ?_)
  refine z_aload_n C dL_law_160 rfl 1 rfl ?_
  refine z_iconst C (nI 1) dL_law_161 (by decide) ?_
  refine z_iload C dL_law_162 5 rfl ?_
  refine z_iconst C (nI 4) dL_law_164 (by decide) ?_
  refine z_ishr C (nI (Y / 2 ^ 4)) dL_law_165 (bit_of (s := Y) (k := 4) (by omega) (by decide)) ?_
  refine z_aload_n C dL_law_166 rfl 1 rfl ?_
  refine z_callV (As := []) (st := [.int (nI (Y / 2 ^ 4)), .int (nI 1), .ref a0]) (mc := 0) (ms := 0) C hL_hcoS hF_hcoS rfl (c_X2_load l hlst G L FS zNo a0 a1 a2 b4 b5 b6 b7 ad n now r151 fd hcoS) (cwV 0 C.1.2.2.2.2 gL_law_X2_load rfl rfl rfl (by decide +kernel) ⟨Nat.le_of_ble_eq_true rfl, Nat.le_of_ble_eq_true rfl⟩) rfl (Nat.le_of_ble_eq_true rfl) ⟨Nat.le_trans (by omega) hce, Nat.le_trans (by omega) hcs⟩ dL_law_167 (z_p ?_)
  refine z_stk (st' := [.int (nI (smV (fun j => fTk (fd j)) n)), .int (nI (Y / 2 ^ 4)), .int (nI 1), .ref a0]) rfl ?_
  have tk_l := tk_12 hn_hcoS ok_hcoS
  refine z_iconst C (nI 2) dL_law_170 (by decide) ?_
  refine z_idiv C (nI ((smV (fun j => fTk (fd j)) n) / 2)) dL_law_171 (by decide) (pk_div (a := smV (fun j => fTk (fd j)) n) (d := 2) (by omega) (by decide) (by decide)) ?_
  refine z_iconst C (nI 5) dL_law_172 (by decide) ?_
  refine z_iadd C (nI ((smV (fun j => fTk (fd j)) n) / 2 + 5)) dL_law_173 (nI_add ((smV (fun j => fTk (fd j)) n) / 2) 5) ?_
  refine z_callS (As := [.int (nI (Y / 2 ^ 4)), .int (nI ((smV (fun j => fTk (fd j)) n) / 2 + 5))]) (st := [.int (nI 1), .ref a0]) (mc := 0) (ms := 0) C (c_L_at l hlst G L FS (Y / 2 ^ 4) ((smV (fun j => fTk (fd j)) n) / 2 + 5) (by omega) (by omega) (by omega)) (va_cwS 2 C.1.2.2.2.2 gL_law_L_at rfl rfl rfl (by decide +kernel) ⟨Nat.le_of_ble_eq_true rfl, Nat.le_of_ble_eq_true rfl⟩) rfl (Nat.le_of_ble_eq_true rfl) ⟨Nat.le_trans (by omega) hce, Nat.le_trans (by omega) hcs⟩ dL_law_174 (fun rv9 L9 F9 hp9 => ?_)
  obtain ⟨r174, hr174, e91, e92, e93⟩ := hp9
  rw [e91, e92, e93]
  refine z_stk (st' := [.int (nI r174), .int (nI 1), .ref a0]) rfl ?_
  refine z_iadd C (nI (1 + r174)) dL_law_177 (nI_add 1 r174) ?_
  refine z_iload_n C dL_law_178 rfl 2 rfl ?_
  refine z_callS (As := [.ref a0, .int (nI (1 + r174)), .int (nI (cW fd n))]) (st := []) (mc := 3) (ms := 18) C (c_L_relieves l hlst G L FS zNo a0 n now r151 fd hcoS.cl (1 + r174) (by omega) (by omega) hz) (va_cwS 3 C.1.2.2.2.2 gL_law_L_relieves rfl rfl rfl (by decide +kernel) ⟨Nat.le_of_ble_eq_true rfl, Nat.le_of_ble_eq_true rfl⟩) rfl (Nat.le_of_ble_eq_true rfl) ⟨Nat.le_trans (by omega) hce, Nat.le_trans (by omega) hcs⟩ dL_law_179 (fun rv9 L9 F179 hp9 => ?_)
  obtain ⟨e91, e92, g179, hcl179, hN179⟩ := hp9
  rw [e91, e92]
  refine z_stk (st' := [.int (nI 1)]) rfl ?_
  have hz179 : fZ n g179 := hN179.2
  have hcw179 : cW g179 n = cW fd n := hN179.cW
  refine z_lvs (lv' := [(0, .ref b), (1, .ref a0), (2, .int (nI (cW g179 n))), (3, .int (nI t)), (4, .int (nI X)), (5, .int (nI Y))]) (by rw [hcw179]) ?_
  obtain ⟨a1_179, a2_179, b4_179, b5_179, b6_179, b7_179, ad_179, hco_179⟩ := id hcl179
  have hL_hco_179 := hco_179.1.1
  have hF_hco_179 := hco_179.2.1
  obtain ⟨hn_hco_179, hnow_hco_179, hsl_hco_179⟩ := hco_179.2.2.2.2.2.2.2.1
  have ok_hco_179 : ∀ j, j < n → fOk now (g179 j) := fun j hj => (hco_179.2.2.2.2.2.1 j hj).2.2.1
  refine z_if_ne C 187 (((1 : Nat) : Int) = (0 : Int)) (zi_eq (zi_N (n := 1) (by omega)) zi_0) dL_law_182 (by decide) (fun c2_ => ?_) (fun c2_ => absurd c2_ (by omega))
  refine z_aload_n C dL_law_187 rfl 1 rfl ?_
  refine z_iconst C (nI 1) dL_law_188 (by decide) ?_
  refine z_iload C dL_law_189 4 rfl ?_
  refine z_bipush C (nI 9) dL_law_191 (by decide) ?_
  refine z_ishr C (nI (X / 2 ^ 9)) dL_law_193 (bit_of (s := X) (k := 9) (by omega) (by decide)) ?_
  refine z_bipush C (nI 7) dL_law_194 (by decide) ?_
  refine z_callS (As := [.int (nI (X / 2 ^ 9)), .int (nI 7)]) (st := [.int (nI 1), .ref a0]) (mc := 0) (ms := 0) C (c_L_at l hlst G L F179 (X / 2 ^ 9) 7 (by omega) (by omega) (by omega)) (va_cwS 2 C.1.2.2.2.2 gL_law_L_at rfl rfl rfl (by decide +kernel) ⟨Nat.le_of_ble_eq_true rfl, Nat.le_of_ble_eq_true rfl⟩) rfl (Nat.le_of_ble_eq_true rfl) ⟨Nat.le_trans (by omega) hce, Nat.le_trans (by omega) hcs⟩ dL_law_196 (fun rv9 L9 F9 hp9 => ?_)
  obtain ⟨r196, hr196, e91, e92, e93⟩ := hp9
  rw [e91, e92, e93]
  refine z_stk (st' := [.int (nI r196), .int (nI 1), .ref a0]) rfl ?_
  refine z_iadd C (nI (1 + r196)) dL_law_199 (nI_add 1 r196) ?_
  refine z_callS (As := [.ref a0, .int (nI (1 + r196))]) (st := []) (mc := 1) (ms := 6) C (c_L_passes l hlst G L F179 zNo a0 n now r151 g179 hco_179.cl (1 + r196) (by omega) (by omega) (by omega) hz179) (va_cwS 2 C.1.2.2.2.2 gL_law_L_passes rfl rfl rfl (by decide +kernel) ⟨Nat.le_of_ble_eq_true rfl, Nat.le_of_ble_eq_true rfl⟩) rfl (Nat.le_of_ble_eq_true rfl) ⟨Nat.le_trans (by omega) hce, Nat.le_trans (by omega) hcs⟩ dL_law_200 (fun rv9 L9 F200 hp9 => ?_)
  obtain ⟨e91, e92, g200, hcl200, hN200⟩ := hp9
  rw [e91, e92]
  refine z_stk (st' := [.int (nI 1)]) rfl ?_
  have hz200 : fZ n g200 := hN200.2
  have hcw200 : cW g200 n = cW g179 n := hN200.cW
  refine z_lvs (lv' := [(0, .ref b), (1, .ref a0), (2, .int (nI (cW g200 n))), (3, .int (nI t)), (4, .int (nI X)), (5, .int (nI Y))]) (by rw [hcw200]) ?_
  obtain ⟨a1_200, a2_200, b4_200, b5_200, b6_200, b7_200, ad_200, hco_200⟩ := id hcl200
  have hL_hco_200 := hco_200.1.1
  have hF_hco_200 := hco_200.2.1
  obtain ⟨hn_hco_200, hnow_hco_200, hsl_hco_200⟩ := hco_200.2.2.2.2.2.2.2.1
  have ok_hco_200 : ∀ j, j < n → fOk (now + (1 + r196)) (g200 j) := fun j hj => (hco_200.2.2.2.2.2.1 j hj).2.2.1
  refine z_if_eq C 232 (((1 : Nat) : Int) = (0 : Int)) (zi_eq (zi_N (n := 1) (by omega)) zi_0) dL_law_203 (by decide) (fun c3_ => absurd c3_ (by omega)) (fun c3_ => ?_)
  refine z_aload_n C dL_law_206 rfl 1 rfl ?_
  refine z_iload_n C dL_law_207 rfl 2 rfl ?_
  refine z_callS (As := [.ref a0, .int (nI (cW g200 n))]) (st := []) (mc := 2) (ms := 12) C (c_L_turns l hlst G L F200 zNo a0 n (now + (1 + r196)) r151 g200 hco_200.cl hz200) (va_cwS 2 C.1.2.2.2.2 gL_law_L_turns rfl rfl rfl (by decide +kernel) ⟨Nat.le_of_ble_eq_true rfl, Nat.le_of_ble_eq_true rfl⟩) rfl (Nat.le_of_ble_eq_true rfl) ⟨Nat.le_trans (by omega) hce, Nat.le_trans (by omega) hcs⟩ dL_law_208 (fun rv9 L9 F208 hp9 => ?_)
  obtain ⟨e91, e92, g208, hcl208, hN208⟩ := hp9
  rw [e91, e92]
  refine z_stk (st' := [.int (nI 1)]) rfl ?_
  have hz208 : fZ n g208 := hN208.2
  have hcw208 : cW g208 n = cW g200 n := hN208.cW
  refine z_lvs (lv' := [(0, .ref b), (1, .ref a0), (2, .int (nI (cW g208 n))), (3, .int (nI t)), (4, .int (nI X)), (5, .int (nI Y))]) (by rw [hcw208]) ?_
  obtain ⟨a1_208, a2_208, b4_208, b5_208, b6_208, b7_208, ad_208, hco_208⟩ := id hcl208
  have hL_hco_208 := hco_208.1.1
  have hF_hco_208 := hco_208.2.1
  obtain ⟨hn_hco_208, hnow_hco_208, hsl_hco_208⟩ := hco_208.2.2.2.2.2.2.2.1
  have ok_hco_208 : ∀ j, j < n → fOk (now + (1 + r196)) (g208 j) := fun j hj => (hco_208.2.2.2.2.2.1 j hj).2.2.1
  refine z_if_eq C 232 (((1 : Nat) : Int) = (0 : Int)) (zi_eq (zi_N (n := 1) (by omega)) zi_0) dL_law_211 (by decide) (fun c4_ => absurd c4_ (by omega)) (fun c4_ => ?_)
  refine z_aload_n C dL_law_214 rfl 1 rfl ?_
  refine z_iconst C (nI 1) dL_law_215 (by decide) ?_
  refine z_iload C dL_law_216 5 rfl ?_
  refine z_bipush C (nI 9) dL_law_218 (by decide) ?_
  refine z_ishr C (nI (Y / 2 ^ 9)) dL_law_220 (bit_of (s := Y) (k := 9) (by omega) (by decide)) ?_
  refine z_iconst C (nI 3) dL_law_221 (by decide) ?_
  refine z_callS (As := [.int (nI (Y / 2 ^ 9)), .int (nI 3)]) (st := [.int (nI 1), .ref a0]) (mc := 0) (ms := 0) C (c_L_at l hlst G L F208 (Y / 2 ^ 9) 3 (by omega) (by omega) (by omega)) (va_cwS 2 C.1.2.2.2.2 gL_law_L_at rfl rfl rfl (by decide +kernel) ⟨Nat.le_of_ble_eq_true rfl, Nat.le_of_ble_eq_true rfl⟩) rfl (Nat.le_of_ble_eq_true rfl) ⟨Nat.le_trans (by omega) hce, Nat.le_trans (by omega) hcs⟩ dL_law_222 (fun rv9 L9 F9 hp9 => ?_)
  obtain ⟨r222, hr222, e91, e92, e93⟩ := hp9
  rw [e91, e92, e93]
  refine z_stk (st' := [.int (nI r222), .int (nI 1), .ref a0]) rfl ?_
  refine z_iadd C (nI (1 + r222)) dL_law_225 (nI_add 1 r222) ?_
  refine z_callS (As := [.ref a0, .int (nI (1 + r222))]) (st := []) (mc := 1) (ms := 6) C (c_L_passes l hlst G L F208 zNo a0 n (now + (1 + r196)) r151 g208 hco_208.cl (1 + r222) (by omega) (by omega) (by omega) hz208) (va_cwS 2 C.1.2.2.2.2 gL_law_L_passes rfl rfl rfl (by decide +kernel) ⟨Nat.le_of_ble_eq_true rfl, Nat.le_of_ble_eq_true rfl⟩) rfl (Nat.le_of_ble_eq_true rfl) ⟨Nat.le_trans (by omega) hce, Nat.le_trans (by omega) hcs⟩ dL_law_226 (fun rv9 L9 F226 hp9 => ?_)
  obtain ⟨e91, e92, g226, hcl226, hN226⟩ := hp9
  rw [e91, e92]
  refine z_stk (st' := [.int (nI 1)]) rfl ?_
  have hz226 : fZ n g226 := hN226.2
  have hcw226 : cW g226 n = cW g208 n := hN226.cW
  refine z_lvs (lv' := [(0, .ref b), (1, .ref a0), (2, .int (nI (cW g226 n))), (3, .int (nI t)), (4, .int (nI X)), (5, .int (nI Y))]) (by rw [hcw226]) ?_
  obtain ⟨a1_226, a2_226, b4_226, b5_226, b6_226, b7_226, ad_226, hco_226⟩ := id hcl226
  have hL_hco_226 := hco_226.1.1
  have hF_hco_226 := hco_226.2.1
  obtain ⟨hn_hco_226, hnow_hco_226, hsl_hco_226⟩ := hco_226.2.2.2.2.2.2.2.1
  have ok_hco_226 : ∀ j, j < n → fOk (now + (1 + r196) + (1 + r222)) (g226 j) := fun j hj => (hco_226.2.2.2.2.2.1 j hj).2.2.1
  refine z_if_ne C 234 (((1 : Nat) : Int) = (0 : Int)) (zi_eq (zi_N (n := 1) (by omega)) zi_0) dL_law_229 (by decide) (fun c5_ => ?_) (fun c5_ => absurd c5_ (by omega))
  refine z_iload C dL_law_234 5 rfl ?_
  refine z_bipush C (nI 11) dL_law_236 (by decide) ?_
  refine z_ishr C (nI (Y / 2 ^ 11)) dL_law_238 (bit_of (s := Y) (k := 11) (by omega) (by decide)) ?_
  refine z_aload_n C dL_law_239 rfl 1 rfl ?_
  refine z_callV (As := []) (st := [.int (nI (Y / 2 ^ 11))]) (mc := 0) (ms := 0) C hL_hco_226 hF_hco_226 rfl (c_X2_feeders l hlst G L F226 zNo a0 a1_226 a2_226 b4_226 b5_226 b6_226 b7_226 ad_226 n (now + (1 + r196) + (1 + r222)) r151 g226 hco_226) (cwV 0 C.1.2.2.2.2 gL_law_X2_feeders rfl rfl rfl (by decide +kernel) ⟨Nat.le_of_ble_eq_true rfl, Nat.le_of_ble_eq_true rfl⟩) rfl (Nat.le_of_ble_eq_true rfl) ⟨Nat.le_trans (by omega) hce, Nat.le_trans (by omega) hcs⟩ dL_law_240 (z_p ?_)
  refine z_stk (st' := [.int (nI n), .int (nI (Y / 2 ^ 11))]) rfl ?_
  refine z_callS (As := [.int (nI (Y / 2 ^ 11)), .int (nI n)]) (st := []) (mc := 0) (ms := 0) C (c_L_at l hlst G L F226 (Y / 2 ^ 11) n (by omega) (by omega) (by omega)) (va_cwS 2 C.1.2.2.2.2 gL_law_L_at rfl rfl rfl (by decide +kernel) ⟨Nat.le_of_ble_eq_true rfl, Nat.le_of_ble_eq_true rfl⟩) rfl (Nat.le_of_ble_eq_true rfl) ⟨Nat.le_trans (by omega) hce, Nat.le_trans (by omega) hcs⟩ dL_law_243 (fun rv9 L9 F9 hp9 => ?_)
  obtain ⟨r243, hr243, e91, e92, e93⟩ := hp9
  rw [e91, e92, e93]
  refine z_stk (st' := [.int (nI r243)]) rfl ?_
  refine z_istore (lv' := [(6, .int (nI r243)), (0, .ref b), (1, .ref a0), (2, .int (nI (cW g226 n))), (3, .int (nI t)), (4, .int (nI X)), (5, .int (nI Y))]) C dL_law_246 (by decide) rfl ?_
  refine z_aload_n C dL_law_248 rfl 2 rfl ?_
  refine z_iload C dL_law_249 0 rfl ?_
  refine z_callV (As := [.int (nI r243)]) (st := []) (mc := 0) (ms := 0) C hL_hco_226 hF_hco_226 rfl (m_X2_isCut l hlst G L F226 zNo a0 a1_226 a2_226 b4_226 b5_226 b6_226 b7_226 ad_226 n (now + (1 + r196) + (1 + r222)) r151 g226 hco_226 r243 (by omega)) (cwV 1 C.1.2.2.2.2 gL_law_X2_isCut rfl rfl rfl (by decide +kernel) ⟨Nat.le_of_ble_eq_true rfl, Nat.le_of_ble_eq_true rfl⟩) rfl (Nat.le_of_ble_eq_true rfl) ⟨Nat.le_trans (by omega) hce, Nat.le_trans (by omega) hcs⟩ dL_law_251 (z_p ?_)
  refine z_stk (st' := [.int (nI (fOf (g226 r243)))]) rfl ?_
  have u5 := (ok_hco_226 r243 (by omega)).2.2.2.2.1
  refine z_if_eq C 283 (((fOf (g226 r243) : Nat) : Int) = (0 : Int)) (zi_eq (zi_N (n := fOf (g226 r243)) (by omega)) zi_0) dL_law_254 (by decide) (fun c6_ => ?_) (fun c6_ => ?_)
  · -- 254 taken
    refine z_sub (lv' := [(0, .ref b), (1, .ref a0), (2, .int (nI (cW g226 n))), (3, .int (nI t))]) [1, 2, 3, 4] rfl ?_
    refine z_wide (ce + 16) (cs + 100) (by omega) (by omega) ?_
    exact K L F226 n (now + (1 + r196) + (1 + r222)) r151 g226 hco_226.cl hz226 h1n (by omega)
  · -- 254 not taken
    refine z_aload_n C dL_law_257 rfl 2 rfl ?_
    refine z_iload C dL_law_258 0 rfl ?_
    refine z_callVX (As := [.int (nI r243)]) (st := []) (mc := 2) (ms := 12) C hL_hco_226 hF_hco_226 rfl (c_X2_restore l hlst G L F226 zNo a0 a1_226 a2_226 b4_226 b5_226 b6_226 b7_226 ad_226 n (now + (1 + r196) + (1 + r222)) r151 g226 hco_226 (nI r243)) (cwV 1 C.1.2.2.2.2 gL_law_X2_restore rfl rfl rfl (by decide +kernel) ⟨Nat.le_of_ble_eq_true rfl, Nat.le_of_ble_eq_true rfl⟩) rfl (Nat.le_of_ble_eq_true rfl) ⟨Nat.le_trans (by omega) hce, Nat.le_trans (by omega) hcs⟩ dL_law_260 (fun E9 L9 F9 hx => (by rcases hx.2.2 with hx | ⟨-, k9, q1, q2, q3⟩; exact absurd (zIx_in hn_hco_226 (show r243 < n by omega) rfl) hx.2; have q4 := nIe (by omega) (by omega) q2; rw [← q4] at q3; exact absurd q3 (by omega))) (fun rv9 L9 FR hp9 => ?_)
    obtain ⟨k9, q91, e90, g91, e91, e92, hcoR, hkM9⟩ := hp9
    obtain rfl : r243 = k9 := nIe (by omega) (by omega) e90
    rw [e91, e92]
    refine z_stk (st' := [.int (nI (fTk (fOn (g226 r243))))]) rfl ?_
    have hzR := fZ_on (k := r243) hz226
    have hcwR := cW_on (fd := g226) (n := n) (k := r243)
    have hatR := upF_at g226 r243 (fOn (g226 r243))
    obtain ⟨gR, hgR⟩ : ∃ g, g = upF g226 r243 (fOn (g226 r243)) := ⟨_, rfl⟩
    rw [← hgR] at hcoR hzR hcwR hatR
    have hL_hcoR := hcoR.1.1
    have hF_hcoR := hcoR.2.1
    obtain ⟨hn_hcoR, hnow_hcoR, hsl_hcoR⟩ := hcoR.2.2.2.2.2.2.2.1
    have ok_hcoR : ∀ j, j < n → fOk (now + (1 + r196) + (1 + r222)) (gR j) := fun j hj => (hcoR.2.2.2.2.2.1 j hj).2.2.1
    have hR1 : fTk (gR r243) = fTk (fOn (g226 r243)) := by rw [hatR]
    have hR2 : fOf (gR r243) = 0 := by rw [hatR]; rfl
    refine z_lvs (lv' := [(6, .int (nI r243)), (0, .ref b), (1, .ref a0), (2, .int (nI (cW gR n))), (3, .int (nI t)), (4, .int (nI X)), (5, .int (nI Y))]) (by rw [hcwR]) ?_
    refine z_aload_n C dL_law_263 rfl 2 rfl ?_
    refine z_iload C dL_law_264 0 rfl ?_
    refine z_callV (As := [.int (nI r243)]) (st := [.int (nI (fTk (fOn (g226 r243))))]) (mc := 0) (ms := 0) C hL_hcoR hF_hcoR rfl (m_X2_takes l hlst G L FR zNo a0 a1_226 a2_226 b4_226 b5_226 b6_226 b7_226 ad_226 n (now + (1 + r196) + (1 + r222)) r151 gR hcoR r243 (by omega)) (cwV 1 C.1.2.2.2.2 gL_law_X2_takes rfl rfl rfl (by decide +kernel) ⟨Nat.le_of_ble_eq_true rfl, Nat.le_of_ble_eq_true rfl⟩) rfl (Nat.le_of_ble_eq_true rfl) ⟨Nat.le_trans (by omega) hce, Nat.le_trans (by omega) hcs⟩ dL_law_266 (z_p ?_)
    refine z_stk (st' := [.int (nI (fTk (gR r243))), .int (nI (fTk (fOn (g226 r243))))]) rfl ?_
    have t9 := fTk_le (ok_hcoR r243 (by omega))
    refine z_icmp_lt C 281 (((fTk (fOn (g226 r243)) : Nat) : Int) < ((fTk (gR r243) : Nat) : Int)) (zi_lt (zi_N (n := fTk (fOn (g226 r243))) (by omega)) (zi_N (n := fTk (gR r243)) (by omega))) dL_law_269 (by decide) (fun c7_ => absurd c7_ (by omega)) (fun c7_ => ?_)
    refine z_aload_n C dL_law_272 rfl 2 rfl ?_
    refine z_iload C dL_law_273 0 rfl ?_
    refine z_callV (As := [.int (nI r243)]) (st := []) (mc := 0) (ms := 0) C hL_hcoR hF_hcoR rfl (m_X2_isCut l hlst G L FR zNo a0 a1_226 a2_226 b4_226 b5_226 b6_226 b7_226 ad_226 n (now + (1 + r196) + (1 + r222)) r151 gR hcoR r243 (by omega)) (cwV 1 C.1.2.2.2.2 gL_law_X2_isCut rfl rfl rfl (by decide +kernel) ⟨Nat.le_of_ble_eq_true rfl, Nat.le_of_ble_eq_true rfl⟩) rfl (Nat.le_of_ble_eq_true rfl) ⟨Nat.le_trans (by omega) hce, Nat.le_trans (by omega) hcs⟩ dL_law_275 (z_p ?_)
    refine z_stk (st' := [.int (nI (fOf (gR r243)))]) rfl ?_
    have u5 := (ok_hcoR r243 (by omega)).2.2.2.2.1
    refine z_if_eq C 283 (((fOf (gR r243) : Nat) : Int) = (0 : Int)) (zi_eq (zi_N (n := fOf (gR r243)) (by omega)) zi_0) dL_law_278 (by decide) (fun c8_ => ?_) (fun c8_ => absurd c8_ (by omega))
    refine z_sub (lv' := [(0, .ref b), (1, .ref a0), (2, .int (nI (cW gR n))), (3, .int (nI t))]) [1, 2, 3, 4] rfl ?_
    refine z_wide (ce + 16) (cs + 100) (by omega) (by omega) ?_
    exact K L FR n (now + (1 + r196) + (1 + r222)) r151 gR hcoR.cl hzR h1n (by omega)
