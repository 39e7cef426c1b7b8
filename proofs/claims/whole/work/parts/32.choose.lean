set_option maxRecDepth 100000 in
theorem hin_X3_choose_X3 : ∀ w ∈ u_ws RX3 TX3 11, w ∈ wsX3_choose := by decide +kernel
set_option maxHeartbeats 4000000 in
set_option maxRecDepth 100000 in
theorem c_X3_choose (l : Launch) (hlst : l.stackTraces = false) (G : zGt) (L : List Nat) (F : Nat → va_E) (m0 c0 c1 c2 c3 c4 c5 c6 : Nat) (n now sl thr : Nat) (g : Nat → FdT) (hmo : zMo G L F m0 c0 c1 c2 c3 c4 c5 c6 n now sl thr g) (sf : Nat) (hsf : 1 ≤ sf ∧ sf ≤ 30000) : zM l yX3_choose wsX3_choose 3 67 0 0 G L F [.ref m0, .int (nI sf)] (fun rv L1 F1 => ∃ b : Nat, rv = some (.int (nI b)) ∧ isB n g sl sf b ∧ b < 4096 ∧ L1 = L ∧ F1 = F) := by
  obtain ⟨⟨hLm, hLc0, hLc1, hLc2, hLc3, hLc4, hLc5, hLc6⟩, ⟨hFm, hFc0, hFc1, hFc2, hFc3, hFc4, hFc5, hFc6⟩, hNc, hGg, ⟨hn, hnow, hsl, hthr⟩⟩ := id hmo
  have hpw : 2 ^ n ≤ 2 ^ 12 := Nat.pow_le_pow_right (by decide) hn
  rw [show (2 : Nat) ^ 12 = 4096 from rfl] at hpw
  refine z_of (cc := cX3_choose) (nL := 13) (ret := (some .int)) (own := RX3) hlst (by decide +kernel) rfl rfl (Nat.le_of_ble_eq_true rfl) ?_
  intro p e s m below meth c A hnm C
  refine z_lvs (lv' := [(0, .ref m0), (1, .int (nI sf))]) rfl ?_
  refine z_iconst C (nI 0) dX3_choose_0 (by decide) ?_
  refine z_istore_n (lv' := [(2, .int (nI 0)), (0, .ref m0), (1, .int (nI sf))]) C dX3_choose_1 rfl (by decide) rfl ?_
  refine z_iconst C (nI 0) dX3_choose_2 (by decide) ?_
  refine z_istore_n (lv' := [(3, .int (nI 0)), (2, .int (nI 0)), (0, .ref m0), (1, .int (nI sf))]) C dX3_choose_3 rfl (by decide) rfl ?_
  refine z_iconst C (nI 0) dX3_choose_4 (by decide) ?_
  refine z_istore (lv' := [(4, .int (nI 0)), (3, .int (nI 0)), (2, .int (nI 0)), (0, .ref m0), (1, .int (nI sf))]) C dX3_choose_5 (by decide) rfl ?_
  refine z_iconst C (nI 0) dX3_choose_7 (by decide) ?_
  refine z_istore (lv' := [(5, .int (nI 0)), (4, .int (nI 0)), (3, .int (nI 0)), (2, .int (nI 0)), (0, .ref m0), (1, .int (nI sf))]) C dX3_choose_8 (by decide) rfl ?_
  refine z_iconst C (nI 1) dX3_choose_10 (by decide) ?_
  refine z_istore (lv' := [(6, .int (nI 1)), (5, .int (nI 0)), (4, .int (nI 0)), (3, .int (nI 0)), (2, .int (nI 0)), (0, .ref m0), (1, .int (nI sf))]) C dX3_choose_11 (by decide) rfl ?_
  refine z_sub (lv' := [(0, .ref m0), (1, .int (nI sf)), (2, .int (nI 0)), (3, .int (nI 0)), (4, .int (nI 0)), (5, .int (nI 0)), (6, .int (nI 1))]) [5, 6, 4, 3, 2, 1, 0] rfl ?_
  have lp13 : ∀ (N9 : Nat) (ss bs bt bh bn : Nat) (hs1 : 1 ≤ ss) (hs2 : ss ≤ 2 ^ n) (hch : chI n g sl sf ss bs bt bh) (hbz : bs = 0 → bt = 0 ∧ bh = 0) (hbn : bn ≤ 1) (hbn2 : bs ≠ 0 → (bn = 1 ↔ bt ≤ sf + sl)) (hbn3 : bs = 0 → bn = 0) (h9 : 2 ^ n - ss < N9), zW p l e { frames := 3, cells := 0, slots := 0, locals := 67 } s m [.ref m0, .int (nI sf)].toArray below meth c 13 G A (MQ below (zQ G (fun rv L1 F1 => ∃ b : Nat, rv = some (.int (nI b)) ∧ isB n g sl sf b ∧ b < 4096 ∧ L1 = L ∧ F1 = F) A) [.ref m0, .int (nI sf)].toArray s 0 0 A) 0 0 L F 13 [(0, .ref m0), (1, .int (nI sf)), (2, .int (nI bs)), (3, .int (nI bt)), (4, .int (nI bh)), (5, .int (nI bn)), (6, .int (nI ss))] [] := by
    intro N9
    induction N9 with
    | zero => intro ss bs bt bh bn hs1 hs2 hch hbz hbn hbn2 hbn3 h9; exact absurd h9 (Nat.not_lt_zero _)
    | succ N9 ih13 =>
      intro ss bs bt bh bn hs1 hs2 hch hbz hbn hbn2 hbn3 hN13
      obtain ⟨e1, e2⟩ := chI_bd hch hbz hn hnow hGg.1
      have e3 := chI_lt hch hs1
      refine z_iload C dX3_choose_13 6 rfl ?_
      refine z_iconst C (nI 1) dX3_choose_15 (by decide) ?_
      refine z_aload_n C dX3_choose_16 rfl 0 rfl ?_
      refine z_get (ref := "ShedwheelModel") (v := .int (nI n)) C hin_X3_choose_X3 hLm hFm rfl 7 (by decide) (by decide +kernel) (fun _ h9 => h9) rfl dX3_choose_17 ?_
      refine z_ishl C (nI (2 ^ n)) dX3_choose_20 (shl1 (by omega)) ?_
      refine z_icmp_ge C 243 (((2 ^ n : Nat) : Int) ≤ ((ss : Nat) : Int)) (zi_le (zi_N (n := 2 ^ n) (by omega)) (zi_N (n := ss) (by omega))) dX3_choose_21 (by decide) (fun c1_ => ?_) (fun c1_ => ?_)
      · -- 21 taken
        refine z_iload_n C dX3_choose_243 rfl 2 rfl ?_
        refine z_iret0 C rfl rfl (by decide) (by decide) dX3_choose_244 ?_
        obtain rfl : ss = 2 ^ n := by omega
        exact ⟨bs, rfl, chI_end hch, by omega, rfl, rfl⟩
      · -- 21 not taken
        refine z_iconst C (nI 1) dX3_choose_24 (by decide) ?_
        refine z_istore (lv' := [(7, .int (nI 1)), (0, .ref m0), (1, .int (nI sf)), (2, .int (nI bs)), (3, .int (nI bt)), (4, .int (nI bh)), (5, .int (nI bn)), (6, .int (nI ss))]) C dX3_choose_25 (by decide) rfl ?_
        refine z_iconst C (nI 0) dX3_choose_27 (by decide) ?_
        refine z_istore (lv' := [(8, .int (nI 0)), (7, .int (nI 1)), (0, .ref m0), (1, .int (nI sf)), (2, .int (nI bs)), (3, .int (nI bt)), (4, .int (nI bh)), (5, .int (nI bn)), (6, .int (nI ss))]) C dX3_choose_28 (by decide) rfl ?_
        refine z_iconst C (nI 0) dX3_choose_30 (by decide) ?_
        refine z_istore (lv' := [(9, .int (nI 0)), (8, .int (nI 0)), (7, .int (nI 1)), (0, .ref m0), (1, .int (nI sf)), (2, .int (nI bs)), (3, .int (nI bt)), (4, .int (nI bh)), (5, .int (nI bn)), (6, .int (nI ss))]) C dX3_choose_31 (by decide) rfl ?_
        refine z_iconst C (nI 0) dX3_choose_33 (by decide) ?_
        refine z_istore (lv' := [(10, .int (nI 0)), (9, .int (nI 0)), (8, .int (nI 0)), (7, .int (nI 1)), (0, .ref m0), (1, .int (nI sf)), (2, .int (nI bs)), (3, .int (nI bt)), (4, .int (nI bh)), (5, .int (nI bn)), (6, .int (nI ss))]) C dX3_choose_34 (by decide) rfl ?_
        refine z_lvs (lv' := [(10, .int (nI 0)), (9, .int (nI (sH g ss 0))), (8, .int (nI (sT g ss 0))), (7, .int (nI 1)), (0, .ref m0), (1, .int (nI sf)), (2, .int (nI bs)), (3, .int (nI bt)), (4, .int (nI bh)), (5, .int (nI bn)), (6, .int (nI ss))]) rfl ?_
        refine z_sub (lv' := [(0, .ref m0), (1, .int (nI sf)), (2, .int (nI bs)), (3, .int (nI bt)), (4, .int (nI bh)), (5, .int (nI bn)), (6, .int (nI ss)), (7, .int (nI 1)), (8, .int (nI (sT g ss 0))), (9, .int (nI (sH g ss 0))), (10, .int (nI 0))]) [4, 5, 6, 7, 8, 9, 10, 3, 2, 1, 0] rfl ?_
        have lp36 : ∀ (N9 : Nat) (k cn : Nat) (hk : k ≤ n) (hcn : cn ≤ 1) (hcf : cn = 1 ↔ sF g ss k) (h9 : n - k < N9), zW p l e { frames := 3, cells := 0, slots := 0, locals := 67 } s m [.ref m0, .int (nI sf)].toArray below meth c 13 G A (MQ below (zQ G (fun rv L1 F1 => ∃ b : Nat, rv = some (.int (nI b)) ∧ isB n g sl sf b ∧ b < 4096 ∧ L1 = L ∧ F1 = F) A) [.ref m0, .int (nI sf)].toArray s 0 0 A) 0 0 L F 36 [(0, .ref m0), (1, .int (nI sf)), (2, .int (nI bs)), (3, .int (nI bt)), (4, .int (nI bh)), (5, .int (nI bn)), (6, .int (nI ss)), (7, .int (nI cn)), (8, .int (nI (sT g ss k))), (9, .int (nI (sH g ss k))), (10, .int (nI k))] [] := by
          intro N9
          induction N9 with
          | zero => intro k cn hk hcn hcf h9; exact absurd h9 (Nat.not_lt_zero _)
          | succ N9 ih36 =>
            intro k cn hk hcn hcf hN36
            refine z_iload C dX3_choose_36 10 rfl ?_
            refine z_aload_n C dX3_choose_38 rfl 0 rfl ?_
            refine z_get (ref := "ShedwheelModel") (v := .int (nI n)) C hin_X3_choose_X3 hLm hFm rfl 7 (by decide) (by decide +kernel) (fun _ h9 => h9) rfl dX3_choose_39 ?_
            refine z_icmp_ge C 96 (((n : Nat) : Int) ≤ ((k : Nat) : Int)) (zi_le (zi_N (n := n) (by omega)) (zi_N (n := k) (by omega))) dX3_choose_42 (by decide) (fun c2_ => ?_) (fun c2_ => ?_)
            · -- 42 taken
              obtain rfl : n = k := by omega
              have t1 := sT_le (s := ss) (n := n) hGg.1
              have t2 := sH_le (s := ss) hnow (n := n) hGg.1
              have t3 : n * 1998 ≤ 12 * 1998 := Nat.mul_le_mul_right _ hn
              have t4 : n * 60000 ≤ 12 * 60000 := Nat.mul_le_mul_right _ hn
              refine z_sub (lv' := [(0, .ref m0), (1, .int (nI sf)), (2, .int (nI bs)), (3, .int (nI bt)), (4, .int (nI bh)), (5, .int (nI bn)), (6, .int (nI ss)), (7, .int (nI cn)), (8, .int (nI (sT g ss n))), (9, .int (nI (sH g ss n)))]) [0, 1, 2, 3, 4, 5, 6, 7, 8, 9] rfl ?_
              have jp112 : ∀ (nr : Nat) (hnr : nr ≤ 1) (hnr2 : nr = 1 ↔ sT g ss n ≤ sf + sl), zW p l e { frames := 3, cells := 0, slots := 0, locals := 67 } s m [.ref m0, .int (nI sf)].toArray below meth c 13 G A (MQ below (zQ G (fun rv L1 F1 => ∃ b : Nat, rv = some (.int (nI b)) ∧ isB n g sl sf b ∧ b < 4096 ∧ L1 = L ∧ F1 = F) A) [.ref m0, .int (nI sf)].toArray s 0 0 A) 0 0 L F 112 [(0, .ref m0), (1, .int (nI sf)), (2, .int (nI bs)), (3, .int (nI bt)), (4, .int (nI bh)), (5, .int (nI bn)), (6, .int (nI ss)), (7, .int (nI cn)), (8, .int (nI (sT g ss n))), (9, .int (nI (sH g ss n)))] [.int (nI nr)] := by
                intro nr hnr hnr2
                refine z_istore (lv' := [(10, .int (nI nr)), (0, .ref m0), (1, .int (nI sf)), (2, .int (nI bs)), (3, .int (nI bt)), (4, .int (nI bh)), (5, .int (nI bn)), (6, .int (nI ss)), (7, .int (nI cn)), (8, .int (nI (sT g ss n))), (9, .int (nI (sH g ss n)))]) C dX3_choose_112 (by decide) rfl ?_
                refine z_sub (lv' := [(0, .ref m0), (1, .int (nI sf)), (2, .int (nI bs)), (3, .int (nI bt)), (4, .int (nI bh)), (5, .int (nI bn)), (6, .int (nI ss)), (7, .int (nI cn)), (8, .int (nI (sT g ss n))), (9, .int (nI (sH g ss n))), (10, .int (nI nr))]) [1, 2, 3, 4, 5, 6, 7, 8, 9, 10, 0] rfl ?_
                have jp207 : ∀ (b2 : Nat) (hb2 : b2 ≤ 1) (hb22 : b2 = 1 ↔ (bs = 0 ∨ keyV (sf + sl) (sT g ss n) (sH g ss n) ss < keyV (sf + sl) bt bh bs)), zW p l e { frames := 3, cells := 0, slots := 0, locals := 67 } s m [.ref m0, .int (nI sf)].toArray below meth c 13 G A (MQ below (zQ G (fun rv L1 F1 => ∃ b : Nat, rv = some (.int (nI b)) ∧ isB n g sl sf b ∧ b < 4096 ∧ L1 = L ∧ F1 = F) A) [.ref m0, .int (nI sf)].toArray s 0 0 A) 0 0 L F 207 [(0, .ref m0), (1, .int (nI sf)), (2, .int (nI bs)), (3, .int (nI bt)), (4, .int (nI bh)), (5, .int (nI bn)), (6, .int (nI ss)), (7, .int (nI cn)), (8, .int (nI (sT g ss n))), (9, .int (nI (sH g ss n))), (10, .int (nI nr)), (11, .int (nI b2))] [] := by
                  intro b2 hb2 hb22
                  refine z_iload C dX3_choose_207 7 rfl ?_
                  refine z_if_eq C 237 (((cn : Nat) : Int) = (0 : Int)) (zi_eq (zi_N (n := cn) (by omega)) zi_0) dX3_choose_209 (by decide) (fun c3_ => ?_) (fun c3_ => ?_)
                  · -- 209 taken
                    refine z_iinc (v := nI (ss + 1)) (lv' := [(6, .int (nI (ss + 1))), (0, .ref m0), (1, .int (nI sf)), (2, .int (nI bs)), (3, .int (nI bt)), (4, .int (nI bh)), (5, .int (nI bn)), (7, .int (nI cn)), (8, .int (nI (sT g ss n))), (9, .int (nI (sH g ss n))), (10, .int (nI nr)), (11, .int (nI b2))]) C dX3_choose_237 6 rfl (nI_add ss 1) (by decide) rfl ?_
                    refine z_goto C 13 dX3_choose_240 (by decide) ?_
                    refine z_sub (lv' := [(0, .ref m0), (1, .int (nI sf)), (2, .int (nI bs)), (3, .int (nI bt)), (4, .int (nI bh)), (5, .int (nI bn)), (6, .int (nI (ss + 1)))]) [1, 2, 3, 4, 5, 6, 0] rfl ?_
                    exact ih13 (ss + 1) bs bt bh bn (by omega) (by omega) (chI_skip hch (Or.inl (fun h9 => absurd (hcf.mpr h9.2.1) (by omega)))) hbz hbn hbn2 hbn3 (by omega)
                  · -- 209 not taken
                    refine z_iload C dX3_choose_212 8 rfl ?_
                    refine z_iload_n C dX3_choose_214 rfl 1 rfl ?_
                    refine z_icmp_lt C 237 (((sT g ss n : Nat) : Int) < ((sf : Nat) : Int)) (zi_lt (zi_N (n := sT g ss n) (by omega)) (zi_N (n := sf) (by omega))) dX3_choose_215 (by decide) (fun c4_ => ?_) (fun c4_ => ?_)
                    · -- 215 taken
                      refine z_iinc (v := nI (ss + 1)) (lv' := [(6, .int (nI (ss + 1))), (0, .ref m0), (1, .int (nI sf)), (2, .int (nI bs)), (3, .int (nI bt)), (4, .int (nI bh)), (5, .int (nI bn)), (7, .int (nI cn)), (8, .int (nI (sT g ss n))), (9, .int (nI (sH g ss n))), (10, .int (nI nr)), (11, .int (nI b2))]) C dX3_choose_237 6 rfl (nI_add ss 1) (by decide) rfl ?_
                      refine z_goto C 13 dX3_choose_240 (by decide) ?_
                      refine z_sub (lv' := [(0, .ref m0), (1, .int (nI sf)), (2, .int (nI bs)), (3, .int (nI bt)), (4, .int (nI bh)), (5, .int (nI bn)), (6, .int (nI (ss + 1)))]) [1, 2, 3, 4, 5, 6, 0] rfl ?_
                      exact ih13 (ss + 1) bs bt bh bn (by omega) (by omega) (chI_skip hch (Or.inl (fun h9 => absurd h9.2.2 (by omega)))) hbz hbn hbn2 hbn3 (by omega)
                    · -- 215 not taken
                      refine z_iload C dX3_choose_218 11 rfl ?_
                      refine z_if_eq C 237 (((b2 : Nat) : Int) = (0 : Int)) (zi_eq (zi_N (n := b2) (by omega)) zi_0) dX3_choose_220 (by decide) (fun c5_ => ?_) (fun c5_ => ?_)
                      · -- 220 taken
                        refine z_iinc (v := nI (ss + 1)) (lv' := [(6, .int (nI (ss + 1))), (0, .ref m0), (1, .int (nI sf)), (2, .int (nI bs)), (3, .int (nI bt)), (4, .int (nI bh)), (5, .int (nI bn)), (7, .int (nI cn)), (8, .int (nI (sT g ss n))), (9, .int (nI (sH g ss n))), (10, .int (nI nr)), (11, .int (nI b2))]) C dX3_choose_237 6 rfl (nI_add ss 1) (by decide) rfl ?_
                        refine z_goto C 13 dX3_choose_240 (by decide) ?_
                        refine z_sub (lv' := [(0, .ref m0), (1, .int (nI sf)), (2, .int (nI bs)), (3, .int (nI bt)), (4, .int (nI bh)), (5, .int (nI bn)), (6, .int (nI (ss + 1)))]) [1, 2, 3, 4, 5, 6, 0] rfl ?_
                        exact ih13 (ss + 1) bs bt bh bn (by omega) (by omega) (chI_skip hch (Or.inr ⟨fun h9 => absurd (hb22.mpr (Or.inl h9)) (by omega), fun h9 => absurd (hb22.mpr (Or.inr h9)) (by omega)⟩)) hbz hbn hbn2 hbn3 (by omega)
                      · -- 220 not taken
                        refine z_iload C dX3_choose_223 6 rfl ?_
                        refine z_istore_n (lv' := [(2, .int (nI ss)), (0, .ref m0), (1, .int (nI sf)), (3, .int (nI bt)), (4, .int (nI bh)), (5, .int (nI bn)), (6, .int (nI ss)), (7, .int (nI cn)), (8, .int (nI (sT g ss n))), (9, .int (nI (sH g ss n))), (10, .int (nI nr)), (11, .int (nI b2))]) C dX3_choose_225 rfl (by decide) rfl ?_
                        refine z_iload C dX3_choose_226 8 rfl ?_
                        refine z_istore_n (lv' := [(3, .int (nI (sT g ss n))), (2, .int (nI ss)), (0, .ref m0), (1, .int (nI sf)), (4, .int (nI bh)), (5, .int (nI bn)), (6, .int (nI ss)), (7, .int (nI cn)), (8, .int (nI (sT g ss n))), (9, .int (nI (sH g ss n))), (10, .int (nI nr)), (11, .int (nI b2))]) C dX3_choose_228 rfl (by decide) rfl ?_
                        refine z_iload C dX3_choose_229 9 rfl ?_
                        refine z_istore (lv' := [(4, .int (nI (sH g ss n))), (3, .int (nI (sT g ss n))), (2, .int (nI ss)), (0, .ref m0), (1, .int (nI sf)), (5, .int (nI bn)), (6, .int (nI ss)), (7, .int (nI cn)), (8, .int (nI (sT g ss n))), (9, .int (nI (sH g ss n))), (10, .int (nI nr)), (11, .int (nI b2))]) C dX3_choose_231 (by decide) rfl ?_
                        refine z_iload C dX3_choose_233 10 rfl ?_
                        refine z_istore (lv' := [(5, .int (nI nr)), (4, .int (nI (sH g ss n))), (3, .int (nI (sT g ss n))), (2, .int (nI ss)), (0, .ref m0), (1, .int (nI sf)), (6, .int (nI ss)), (7, .int (nI cn)), (8, .int (nI (sT g ss n))), (9, .int (nI (sH g ss n))), (10, .int (nI nr)), (11, .int (nI b2))]) C dX3_choose_235 (by decide) rfl ?_
                        refine z_iinc (v := nI (ss + 1)) (lv' := [(6, .int (nI (ss + 1))), (5, .int (nI nr)), (4, .int (nI (sH g ss n))), (3, .int (nI (sT g ss n))), (2, .int (nI ss)), (0, .ref m0), (1, .int (nI sf)), (7, .int (nI cn)), (8, .int (nI (sT g ss n))), (9, .int (nI (sH g ss n))), (10, .int (nI nr)), (11, .int (nI b2))]) C dX3_choose_237 6 rfl (nI_add ss 1) (by decide) rfl ?_
                        refine z_goto C 13 dX3_choose_240 (by decide) ?_
                        refine z_sub (lv' := [(0, .ref m0), (1, .int (nI sf)), (2, .int (nI ss)), (3, .int (nI (sT g ss n))), (4, .int (nI (sH g ss n))), (5, .int (nI nr)), (6, .int (nI (ss + 1)))]) [5, 6, 4, 3, 2, 1, 0] rfl ?_
                        exact ih13 (ss + 1) ss (sT g ss n) (sH g ss n) nr (by omega) (by omega) (chI_take hch (by omega) ⟨by omega, hcf.mp (by omega), by omega⟩ (hb22.mp (by omega))) (fun h9 => absurd h9 (by omega)) hnr (fun _ => hnr2) (fun h9 => absurd h9 (by omega)) (by omega)
                have jp133 : ∀ (b1 : Nat) (hb1 : b1 ≤ 1) (hb12 : b1 = 1 ↔ (bs = 0 ∨ (nr = 1 ∧ bn = 0))), zW p l e { frames := 3, cells := 0, slots := 0, locals := 67 } s m [.ref m0, .int (nI sf)].toArray below meth c 13 G A (MQ below (zQ G (fun rv L1 F1 => ∃ b : Nat, rv = some (.int (nI b)) ∧ isB n g sl sf b ∧ b < 4096 ∧ L1 = L ∧ F1 = F) A) [.ref m0, .int (nI sf)].toArray s 0 0 A) 0 0 L F 133 [(0, .ref m0), (1, .int (nI sf)), (2, .int (nI bs)), (3, .int (nI bt)), (4, .int (nI bh)), (5, .int (nI bn)), (6, .int (nI ss)), (7, .int (nI cn)), (8, .int (nI (sT g ss n))), (9, .int (nI (sH g ss n))), (10, .int (nI nr))] [.int (nI b1)] := by
                  intro b1 hb1 hb12
                  refine z_istore (lv' := [(11, .int (nI b1)), (0, .ref m0), (1, .int (nI sf)), (2, .int (nI bs)), (3, .int (nI bt)), (4, .int (nI bh)), (5, .int (nI bn)), (6, .int (nI ss)), (7, .int (nI cn)), (8, .int (nI (sT g ss n))), (9, .int (nI (sH g ss n))), (10, .int (nI nr))]) C dX3_choose_133 (by decide) rfl ?_
                  refine z_iload C dX3_choose_135 0 rfl ?_
                  refine z_if_ne C 207 (((b1 : Nat) : Int) = (0 : Int)) (zi_eq (zi_N (n := b1) (by omega)) zi_0) dX3_choose_137 (by decide) (fun c6_ => ?_) (fun c6_ => ?_)
                  · -- 137 taken
                    refine z_sub (lv' := [(0, .ref m0), (1, .int (nI sf)), (2, .int (nI bs)), (3, .int (nI bt)), (4, .int (nI bh)), (5, .int (nI bn)), (6, .int (nI ss)), (7, .int (nI cn)), (8, .int (nI (sT g ss n))), (9, .int (nI (sH g ss n))), (10, .int (nI nr)), (11, .int (nI b1))]) [1, 2, 3, 4, 5, 6, 7, 8, 9, 10, 11, 0] rfl ?_
                    exact jp207 b1 (by omega) (by first | omega | (unfold keyV; split <;> split <;> omega))
                  · -- 137 not taken
                    refine z_iload C dX3_choose_140 11 rfl ?_
                    refine z_iload C dX3_choose_142 6 rfl ?_
                    refine z_icmp_ne C 207 (((nr : Nat) : Int) = ((bn : Nat) : Int)) (zi_eq (zi_N (n := nr) (by omega)) (zi_N (n := bn) (by omega))) dX3_choose_144 (by decide) (fun c7_ => ?_) (fun c7_ => ?_)
                    · -- 144 taken
                      refine z_sub (lv' := [(0, .ref m0), (1, .int (nI sf)), (2, .int (nI bs)), (3, .int (nI bt)), (4, .int (nI bh)), (5, .int (nI bn)), (6, .int (nI ss)), (7, .int (nI cn)), (8, .int (nI (sT g ss n))), (9, .int (nI (sH g ss n))), (10, .int (nI nr)), (11, .int (nI b1))]) [1, 2, 3, 4, 5, 6, 7, 8, 9, 10, 11, 0] rfl ?_
                      exact jp207 b1 (by omega) (by first | omega | (unfold keyV; split <;> split <;> omega))
                    · -- 144 not taken
                      refine z_iload C dX3_choose_147 11 rfl ?_
                      refine z_if_eq C 160 (((nr : Nat) : Int) = (0 : Int)) (zi_eq (zi_N (n := nr) (by omega)) zi_0) dX3_choose_149 (by decide) (fun c8_ => ?_) (fun c8_ => ?_)
                      · -- 149 taken
                        refine z_iload C dX3_choose_160 9 rfl ?_
                        refine z_iload_n C dX3_choose_162 rfl 4 rfl ?_
                        refine z_isub C ((nI (sT g ss n) - nI bt)) dX3_choose_163 (rfl) ?_
                        refine z_istore (lv' := [(12, .int ((nI (sT g ss n) - nI bt))), (11, .int (nI b1)), (0, .ref m0), (1, .int (nI sf)), (2, .int (nI bs)), (3, .int (nI bt)), (4, .int (nI bh)), (5, .int (nI bn)), (6, .int (nI ss)), (7, .int (nI cn)), (8, .int (nI (sT g ss n))), (9, .int (nI (sH g ss n))), (10, .int (nI nr))]) C dX3_choose_164 (by decide) rfl ?_
                        refine z_iload C dX3_choose_166 0 rfl ?_
                        refine z_if_eq C 176 ((((sT g ss n : Nat) : Int) - ((bt : Nat) : Int)) = (0 : Int)) (zi_eq (pk_sub_toInt (a := sT g ss n) (b := bt) (by omega) (by omega)) zi_0) dX3_choose_168 (by decide) (fun c9_ => ?_) (fun c9_ => ?_)
                        · -- 168 taken
                          refine z_iload C dX3_choose_176 12 rfl ?_
                          refine z_if_eq C 188 (((nr : Nat) : Int) = (0 : Int)) (zi_eq (zi_N (n := nr) (by omega)) zi_0) dX3_choose_178 (by decide) (fun c10_ => ?_) (fun c10_ => ?_)
                          · -- 178 taken
                            refine z_iload C dX3_choose_188 11 rfl ?_
                            refine z_iload C dX3_choose_190 6 rfl ?_
                            refine z_isub C ((nI (sH g ss n) - nI bh)) dX3_choose_192 (rfl) ?_
                            refine z_istore (lv' := [(12, .int ((nI (sH g ss n) - nI bh))), (11, .int (nI b1)), (0, .ref m0), (1, .int (nI sf)), (2, .int (nI bs)), (3, .int (nI bt)), (4, .int (nI bh)), (5, .int (nI bn)), (6, .int (nI ss)), (7, .int (nI cn)), (8, .int (nI (sT g ss n))), (9, .int (nI (sH g ss n))), (10, .int (nI nr))]) C dX3_choose_193 (by decide) rfl ?_
                            refine z_iload C dX3_choose_195 0 rfl ?_
                            refine z_if_ge C 204 ((0 : Int) ≤ (((sH g ss n : Nat) : Int) - ((bh : Nat) : Int))) (zi_le zi_0 (pk_sub_toInt (a := sH g ss n) (b := bh) (by omega) (by omega))) dX3_choose_197 (by decide) (fun c11_ => ?_) (fun c11_ => ?_)
                            · -- 197 taken
                              refine z_iconst C (nI 0) dX3_choose_204 (by decide) ?_
                              refine z_istore (lv' := [(11, .int (nI 0)), (12, .int ((nI (sH g ss n) - nI bh))), (0, .ref m0), (1, .int (nI sf)), (2, .int (nI bs)), (3, .int (nI bt)), (4, .int (nI bh)), (5, .int (nI bn)), (6, .int (nI ss)), (7, .int (nI cn)), (8, .int (nI (sT g ss n))), (9, .int (nI (sH g ss n))), (10, .int (nI nr))]) C dX3_choose_205 (by decide) rfl ?_
                              refine z_sub (lv' := [(0, .ref m0), (1, .int (nI sf)), (2, .int (nI bs)), (3, .int (nI bt)), (4, .int (nI bh)), (5, .int (nI bn)), (6, .int (nI ss)), (7, .int (nI cn)), (8, .int (nI (sT g ss n))), (9, .int (nI (sH g ss n))), (10, .int (nI nr)), (11, .int (nI 0))]) [2, 3, 4, 5, 6, 7, 8, 9, 10, 11, 12, 0] rfl ?_
                              exact jp207 0 (by omega) (by first | omega | (unfold keyV; split <;> split <;> omega))
                            · -- 197 not taken
                              refine z_iconst C (nI 1) dX3_choose_200 (by decide) ?_
                              refine z_goto C 205 dX3_choose_201 (by decide) ?_
                              refine z_istore (lv' := [(11, .int (nI 1)), (12, .int ((nI (sH g ss n) - nI bh))), (0, .ref m0), (1, .int (nI sf)), (2, .int (nI bs)), (3, .int (nI bt)), (4, .int (nI bh)), (5, .int (nI bn)), (6, .int (nI ss)), (7, .int (nI cn)), (8, .int (nI (sT g ss n))), (9, .int (nI (sH g ss n))), (10, .int (nI nr))]) C dX3_choose_205 (by decide) rfl ?_
                              refine z_sub (lv' := [(0, .ref m0), (1, .int (nI sf)), (2, .int (nI bs)), (3, .int (nI bt)), (4, .int (nI bh)), (5, .int (nI bn)), (6, .int (nI ss)), (7, .int (nI cn)), (8, .int (nI (sT g ss n))), (9, .int (nI (sH g ss n))), (10, .int (nI nr)), (11, .int (nI 1))]) [2, 3, 4, 5, 6, 7, 8, 9, 10, 11, 12, 0] rfl ?_
                              exact jp207 1 (by omega) (by first | omega | (unfold keyV; split <;> split <;> omega))
                          · -- 178 not taken
                            refine z_iload C dX3_choose_181 10 rfl ?_
                            refine z_iload_n C dX3_choose_183 rfl 5 rfl ?_
                            refine z_isub C ((nI (sT g ss n) - nI bt)) dX3_choose_184 (rfl) ?_
                            refine z_goto C 193 dX3_choose_185 (by decide) ?_
                            refine z_istore (lv' := [(12, .int ((nI (sT g ss n) - nI bt))), (11, .int (nI b1)), (0, .ref m0), (1, .int (nI sf)), (2, .int (nI bs)), (3, .int (nI bt)), (4, .int (nI bh)), (5, .int (nI bn)), (6, .int (nI ss)), (7, .int (nI cn)), (8, .int (nI (sT g ss n))), (9, .int (nI (sH g ss n))), (10, .int (nI nr))]) C dX3_choose_193 (by decide) rfl ?_
                            refine z_iload C dX3_choose_195 0 rfl ?_
                            refine z_if_ge C 204 ((0 : Int) ≤ (((sT g ss n : Nat) : Int) - ((bt : Nat) : Int))) (zi_le zi_0 (pk_sub_toInt (a := sT g ss n) (b := bt) (by omega) (by omega))) dX3_choose_197 (by decide) (fun c12_ => ?_) (fun c12_ => ?_)
                            · -- 197 taken
                              refine z_iconst C (nI 0) dX3_choose_204 (by decide) ?_
                              refine z_istore (lv' := [(11, .int (nI 0)), (12, .int ((nI (sT g ss n) - nI bt))), (0, .ref m0), (1, .int (nI sf)), (2, .int (nI bs)), (3, .int (nI bt)), (4, .int (nI bh)), (5, .int (nI bn)), (6, .int (nI ss)), (7, .int (nI cn)), (8, .int (nI (sT g ss n))), (9, .int (nI (sH g ss n))), (10, .int (nI nr))]) C dX3_choose_205 (by decide) rfl ?_
                              refine z_sub (lv' := [(0, .ref m0), (1, .int (nI sf)), (2, .int (nI bs)), (3, .int (nI bt)), (4, .int (nI bh)), (5, .int (nI bn)), (6, .int (nI ss)), (7, .int (nI cn)), (8, .int (nI (sT g ss n))), (9, .int (nI (sH g ss n))), (10, .int (nI nr)), (11, .int (nI 0))]) [2, 3, 4, 5, 6, 7, 8, 9, 10, 11, 12, 0] rfl ?_
                              exact jp207 0 (by omega) (by first | omega | (unfold keyV; split <;> split <;> omega))
                            · -- 197 not taken
                              refine z_iconst C (nI 1) dX3_choose_200 (by decide) ?_
                              refine z_goto C 205 dX3_choose_201 (by decide) ?_
                              refine z_istore (lv' := [(11, .int (nI 1)), (12, .int ((nI (sT g ss n) - nI bt))), (0, .ref m0), (1, .int (nI sf)), (2, .int (nI bs)), (3, .int (nI bt)), (4, .int (nI bh)), (5, .int (nI bn)), (6, .int (nI ss)), (7, .int (nI cn)), (8, .int (nI (sT g ss n))), (9, .int (nI (sH g ss n))), (10, .int (nI nr))]) C dX3_choose_205 (by decide) rfl ?_
                              refine z_sub (lv' := [(0, .ref m0), (1, .int (nI sf)), (2, .int (nI bs)), (3, .int (nI bt)), (4, .int (nI bh)), (5, .int (nI bn)), (6, .int (nI ss)), (7, .int (nI cn)), (8, .int (nI (sT g ss n))), (9, .int (nI (sH g ss n))), (10, .int (nI nr)), (11, .int (nI 1))]) [2, 3, 4, 5, 6, 7, 8, 9, 10, 11, 12, 0] rfl ?_
                              exact jp207 1 (by omega) (by first | omega | (unfold keyV; split <;> split <;> omega))
                        · -- 168 not taken
                          refine z_iload C dX3_choose_171 0 rfl ?_
                          refine z_goto C 193 dX3_choose_173 (by decide) ?_
                          refine z_istore (lv' := [(12, .int ((nI (sT g ss n) - nI bt))), (11, .int (nI b1)), (0, .ref m0), (1, .int (nI sf)), (2, .int (nI bs)), (3, .int (nI bt)), (4, .int (nI bh)), (5, .int (nI bn)), (6, .int (nI ss)), (7, .int (nI cn)), (8, .int (nI (sT g ss n))), (9, .int (nI (sH g ss n))), (10, .int (nI nr))]) C dX3_choose_193 (by decide) rfl ?_
                          refine z_iload C dX3_choose_195 0 rfl ?_
                          refine z_if_ge C 204 ((0 : Int) ≤ (((sT g ss n : Nat) : Int) - ((bt : Nat) : Int))) (zi_le zi_0 (pk_sub_toInt (a := sT g ss n) (b := bt) (by omega) (by omega))) dX3_choose_197 (by decide) (fun c13_ => ?_) (fun c13_ => ?_)
                          · -- 197 taken
                            refine z_iconst C (nI 0) dX3_choose_204 (by decide) ?_
                            refine z_istore (lv' := [(11, .int (nI 0)), (12, .int ((nI (sT g ss n) - nI bt))), (0, .ref m0), (1, .int (nI sf)), (2, .int (nI bs)), (3, .int (nI bt)), (4, .int (nI bh)), (5, .int (nI bn)), (6, .int (nI ss)), (7, .int (nI cn)), (8, .int (nI (sT g ss n))), (9, .int (nI (sH g ss n))), (10, .int (nI nr))]) C dX3_choose_205 (by decide) rfl ?_
                            refine z_sub (lv' := [(0, .ref m0), (1, .int (nI sf)), (2, .int (nI bs)), (3, .int (nI bt)), (4, .int (nI bh)), (5, .int (nI bn)), (6, .int (nI ss)), (7, .int (nI cn)), (8, .int (nI (sT g ss n))), (9, .int (nI (sH g ss n))), (10, .int (nI nr)), (11, .int (nI 0))]) [2, 3, 4, 5, 6, 7, 8, 9, 10, 11, 12, 0] rfl ?_
                            exact jp207 0 (by omega) (by first | omega | (unfold keyV; split <;> split <;> omega))
                          · -- 197 not taken
                            refine z_iconst C (nI 1) dX3_choose_200 (by decide) ?_
                            refine z_goto C 205 dX3_choose_201 (by decide) ?_
                            refine z_istore (lv' := [(11, .int (nI 1)), (12, .int ((nI (sT g ss n) - nI bt))), (0, .ref m0), (1, .int (nI sf)), (2, .int (nI bs)), (3, .int (nI bt)), (4, .int (nI bh)), (5, .int (nI bn)), (6, .int (nI ss)), (7, .int (nI cn)), (8, .int (nI (sT g ss n))), (9, .int (nI (sH g ss n))), (10, .int (nI nr))]) C dX3_choose_205 (by decide) rfl ?_
                            refine z_sub (lv' := [(0, .ref m0), (1, .int (nI sf)), (2, .int (nI bs)), (3, .int (nI bt)), (4, .int (nI bh)), (5, .int (nI bn)), (6, .int (nI ss)), (7, .int (nI cn)), (8, .int (nI (sT g ss n))), (9, .int (nI (sH g ss n))), (10, .int (nI nr)), (11, .int (nI 1))]) [2, 3, 4, 5, 6, 7, 8, 9, 10, 11, 12, 0] rfl ?_
                            exact jp207 1 (by omega) (by first | omega | (unfold keyV; split <;> split <;> omega))
                      · -- 149 not taken
                        refine z_iload C dX3_choose_152 10 rfl ?_
                        refine z_iload C dX3_choose_154 5 rfl ?_
                        refine z_isub C ((nI (sH g ss n) - nI bh)) dX3_choose_156 (rfl) ?_
                        refine z_goto C 164 dX3_choose_157 (by decide) ?_
                        refine z_istore (lv' := [(12, .int ((nI (sH g ss n) - nI bh))), (11, .int (nI b1)), (0, .ref m0), (1, .int (nI sf)), (2, .int (nI bs)), (3, .int (nI bt)), (4, .int (nI bh)), (5, .int (nI bn)), (6, .int (nI ss)), (7, .int (nI cn)), (8, .int (nI (sT g ss n))), (9, .int (nI (sH g ss n))), (10, .int (nI nr))]) C dX3_choose_164 (by decide) rfl ?_
                        refine z_iload C dX3_choose_166 0 rfl ?_
                        refine z_if_eq C 176 ((((sH g ss n : Nat) : Int) - ((bh : Nat) : Int)) = (0 : Int)) (zi_eq (pk_sub_toInt (a := sH g ss n) (b := bh) (by omega) (by omega)) zi_0) dX3_choose_168 (by decide) (fun c14_ => ?_) (fun c14_ => ?_)
                        · -- 168 taken
                          refine z_iload C dX3_choose_176 12 rfl ?_
                          refine z_if_eq C 188 (((nr : Nat) : Int) = (0 : Int)) (zi_eq (zi_N (n := nr) (by omega)) zi_0) dX3_choose_178 (by decide) (fun c15_ => ?_) (fun c15_ => ?_)
                          · -- 178 taken
                            refine z_iload C dX3_choose_188 11 rfl ?_
                            refine z_iload C dX3_choose_190 6 rfl ?_
                            refine z_isub C ((nI (sH g ss n) - nI bh)) dX3_choose_192 (rfl) ?_
                            refine z_istore (lv' := [(12, .int ((nI (sH g ss n) - nI bh))), (11, .int (nI b1)), (0, .ref m0), (1, .int (nI sf)), (2, .int (nI bs)), (3, .int (nI bt)), (4, .int (nI bh)), (5, .int (nI bn)), (6, .int (nI ss)), (7, .int (nI cn)), (8, .int (nI (sT g ss n))), (9, .int (nI (sH g ss n))), (10, .int (nI nr))]) C dX3_choose_193 (by decide) rfl ?_
                            refine z_iload C dX3_choose_195 0 rfl ?_
                            refine z_if_ge C 204 ((0 : Int) ≤ (((sH g ss n : Nat) : Int) - ((bh : Nat) : Int))) (zi_le zi_0 (pk_sub_toInt (a := sH g ss n) (b := bh) (by omega) (by omega))) dX3_choose_197 (by decide) (fun c16_ => ?_) (fun c16_ => ?_)
                            · -- 197 taken
                              refine z_iconst C (nI 0) dX3_choose_204 (by decide) ?_
                              refine z_istore (lv' := [(11, .int (nI 0)), (12, .int ((nI (sH g ss n) - nI bh))), (0, .ref m0), (1, .int (nI sf)), (2, .int (nI bs)), (3, .int (nI bt)), (4, .int (nI bh)), (5, .int (nI bn)), (6, .int (nI ss)), (7, .int (nI cn)), (8, .int (nI (sT g ss n))), (9, .int (nI (sH g ss n))), (10, .int (nI nr))]) C dX3_choose_205 (by decide) rfl ?_
                              refine z_sub (lv' := [(0, .ref m0), (1, .int (nI sf)), (2, .int (nI bs)), (3, .int (nI bt)), (4, .int (nI bh)), (5, .int (nI bn)), (6, .int (nI ss)), (7, .int (nI cn)), (8, .int (nI (sT g ss n))), (9, .int (nI (sH g ss n))), (10, .int (nI nr)), (11, .int (nI 0))]) [2, 3, 4, 5, 6, 7, 8, 9, 10, 11, 12, 0] rfl ?_
                              exact jp207 0 (by omega) (by first | omega | (unfold keyV; split <;> split <;> omega))
                            · -- 197 not taken
                              refine z_iconst C (nI 1) dX3_choose_200 (by decide) ?_
                              refine z_goto C 205 dX3_choose_201 (by decide) ?_
                              refine z_istore (lv' := [(11, .int (nI 1)), (12, .int ((nI (sH g ss n) - nI bh))), (0, .ref m0), (1, .int (nI sf)), (2, .int (nI bs)), (3, .int (nI bt)), (4, .int (nI bh)), (5, .int (nI bn)), (6, .int (nI ss)), (7, .int (nI cn)), (8, .int (nI (sT g ss n))), (9, .int (nI (sH g ss n))), (10, .int (nI nr))]) C dX3_choose_205 (by decide) rfl ?_
                              refine z_sub (lv' := [(0, .ref m0), (1, .int (nI sf)), (2, .int (nI bs)), (3, .int (nI bt)), (4, .int (nI bh)), (5, .int (nI bn)), (6, .int (nI ss)), (7, .int (nI cn)), (8, .int (nI (sT g ss n))), (9, .int (nI (sH g ss n))), (10, .int (nI nr)), (11, .int (nI 1))]) [2, 3, 4, 5, 6, 7, 8, 9, 10, 11, 12, 0] rfl ?_
                              exact jp207 1 (by omega) (by first | omega | (unfold keyV; split <;> split <;> omega))
                          · -- 178 not taken
                            refine z_iload C dX3_choose_181 10 rfl ?_
                            refine z_iload_n C dX3_choose_183 rfl 5 rfl ?_
                            refine z_isub C ((nI (sT g ss n) - nI bt)) dX3_choose_184 (rfl) ?_
                            refine z_goto C 193 dX3_choose_185 (by decide) ?_
                            refine z_istore (lv' := [(12, .int ((nI (sT g ss n) - nI bt))), (11, .int (nI b1)), (0, .ref m0), (1, .int (nI sf)), (2, .int (nI bs)), (3, .int (nI bt)), (4, .int (nI bh)), (5, .int (nI bn)), (6, .int (nI ss)), (7, .int (nI cn)), (8, .int (nI (sT g ss n))), (9, .int (nI (sH g ss n))), (10, .int (nI nr))]) C dX3_choose_193 (by decide) rfl ?_
                            refine z_iload C dX3_choose_195 0 rfl ?_
                            refine z_if_ge C 204 ((0 : Int) ≤ (((sT g ss n : Nat) : Int) - ((bt : Nat) : Int))) (zi_le zi_0 (pk_sub_toInt (a := sT g ss n) (b := bt) (by omega) (by omega))) dX3_choose_197 (by decide) (fun c17_ => ?_) (fun c17_ => ?_)
                            · -- 197 taken
                              refine z_iconst C (nI 0) dX3_choose_204 (by decide) ?_
                              refine z_istore (lv' := [(11, .int (nI 0)), (12, .int ((nI (sT g ss n) - nI bt))), (0, .ref m0), (1, .int (nI sf)), (2, .int (nI bs)), (3, .int (nI bt)), (4, .int (nI bh)), (5, .int (nI bn)), (6, .int (nI ss)), (7, .int (nI cn)), (8, .int (nI (sT g ss n))), (9, .int (nI (sH g ss n))), (10, .int (nI nr))]) C dX3_choose_205 (by decide) rfl ?_
                              refine z_sub (lv' := [(0, .ref m0), (1, .int (nI sf)), (2, .int (nI bs)), (3, .int (nI bt)), (4, .int (nI bh)), (5, .int (nI bn)), (6, .int (nI ss)), (7, .int (nI cn)), (8, .int (nI (sT g ss n))), (9, .int (nI (sH g ss n))), (10, .int (nI nr)), (11, .int (nI 0))]) [2, 3, 4, 5, 6, 7, 8, 9, 10, 11, 12, 0] rfl ?_
                              exact jp207 0 (by omega) (by first | omega | (unfold keyV; split <;> split <;> omega))
                            · -- 197 not taken
                              refine z_iconst C (nI 1) dX3_choose_200 (by decide) ?_
                              refine z_goto C 205 dX3_choose_201 (by decide) ?_
                              refine z_istore (lv' := [(11, .int (nI 1)), (12, .int ((nI (sT g ss n) - nI bt))), (0, .ref m0), (1, .int (nI sf)), (2, .int (nI bs)), (3, .int (nI bt)), (4, .int (nI bh)), (5, .int (nI bn)), (6, .int (nI ss)), (7, .int (nI cn)), (8, .int (nI (sT g ss n))), (9, .int (nI (sH g ss n))), (10, .int (nI nr))]) C dX3_choose_205 (by decide) rfl ?_
                              refine z_sub (lv' := [(0, .ref m0), (1, .int (nI sf)), (2, .int (nI bs)), (3, .int (nI bt)), (4, .int (nI bh)), (5, .int (nI bn)), (6, .int (nI ss)), (7, .int (nI cn)), (8, .int (nI (sT g ss n))), (9, .int (nI (sH g ss n))), (10, .int (nI nr)), (11, .int (nI 1))]) [2, 3, 4, 5, 6, 7, 8, 9, 10, 11, 12, 0] rfl ?_
                              exact jp207 1 (by omega) (by first | omega | (unfold keyV; split <;> split <;> omega))
                        · -- 168 not taken
                          refine z_iload C dX3_choose_171 0 rfl ?_
                          refine z_goto C 193 dX3_choose_173 (by decide) ?_
                          refine z_istore (lv' := [(12, .int ((nI (sH g ss n) - nI bh))), (11, .int (nI b1)), (0, .ref m0), (1, .int (nI sf)), (2, .int (nI bs)), (3, .int (nI bt)), (4, .int (nI bh)), (5, .int (nI bn)), (6, .int (nI ss)), (7, .int (nI cn)), (8, .int (nI (sT g ss n))), (9, .int (nI (sH g ss n))), (10, .int (nI nr))]) C dX3_choose_193 (by decide) rfl ?_
                          refine z_iload C dX3_choose_195 0 rfl ?_
                          refine z_if_ge C 204 ((0 : Int) ≤ (((sH g ss n : Nat) : Int) - ((bh : Nat) : Int))) (zi_le zi_0 (pk_sub_toInt (a := sH g ss n) (b := bh) (by omega) (by omega))) dX3_choose_197 (by decide) (fun c18_ => ?_) (fun c18_ => ?_)
                          · -- 197 taken
                            refine z_iconst C (nI 0) dX3_choose_204 (by decide) ?_
                            refine z_istore (lv' := [(11, .int (nI 0)), (12, .int ((nI (sH g ss n) - nI bh))), (0, .ref m0), (1, .int (nI sf)), (2, .int (nI bs)), (3, .int (nI bt)), (4, .int (nI bh)), (5, .int (nI bn)), (6, .int (nI ss)), (7, .int (nI cn)), (8, .int (nI (sT g ss n))), (9, .int (nI (sH g ss n))), (10, .int (nI nr))]) C dX3_choose_205 (by decide) rfl ?_
                            refine z_sub (lv' := [(0, .ref m0), (1, .int (nI sf)), (2, .int (nI bs)), (3, .int (nI bt)), (4, .int (nI bh)), (5, .int (nI bn)), (6, .int (nI ss)), (7, .int (nI cn)), (8, .int (nI (sT g ss n))), (9, .int (nI (sH g ss n))), (10, .int (nI nr)), (11, .int (nI 0))]) [2, 3, 4, 5, 6, 7, 8, 9, 10, 11, 12, 0] rfl ?_
                            exact jp207 0 (by omega) (by first | omega | (unfold keyV; split <;> split <;> omega))
                          · -- 197 not taken
                            refine z_iconst C (nI 1) dX3_choose_200 (by decide) ?_
                            refine z_goto C 205 dX3_choose_201 (by decide) ?_
                            refine z_istore (lv' := [(11, .int (nI 1)), (12, .int ((nI (sH g ss n) - nI bh))), (0, .ref m0), (1, .int (nI sf)), (2, .int (nI bs)), (3, .int (nI bt)), (4, .int (nI bh)), (5, .int (nI bn)), (6, .int (nI ss)), (7, .int (nI cn)), (8, .int (nI (sT g ss n))), (9, .int (nI (sH g ss n))), (10, .int (nI nr))]) C dX3_choose_205 (by decide) rfl ?_
                            refine z_sub (lv' := [(0, .ref m0), (1, .int (nI sf)), (2, .int (nI bs)), (3, .int (nI bt)), (4, .int (nI bh)), (5, .int (nI bn)), (6, .int (nI ss)), (7, .int (nI cn)), (8, .int (nI (sT g ss n))), (9, .int (nI (sH g ss n))), (10, .int (nI nr)), (11, .int (nI 1))]) [2, 3, 4, 5, 6, 7, 8, 9, 10, 11, 12, 0] rfl ?_
                            exact jp207 1 (by omega) (by first | omega | (unfold keyV; split <;> split <;> omega))
                refine z_iload_n C dX3_choose_114 rfl 2 rfl ?_
                refine z_if_eq C 128 (((bs : Nat) : Int) = (0 : Int)) (zi_eq (zi_N (n := bs) (by omega)) zi_0) dX3_choose_115 (by decide) (fun c19_ => ?_) (fun c19_ => ?_)
                · -- 115 taken
                  refine z_iconst C (nI 1) dX3_choose_128 (by decide) ?_
                  refine z_goto C 133 dX3_choose_129 (by decide) ?_
                  refine z_sub (lv' := [(0, .ref m0), (1, .int (nI sf)), (2, .int (nI bs)), (3, .int (nI bt)), (4, .int (nI bh)), (5, .int (nI bn)), (6, .int (nI ss)), (7, .int (nI cn)), (8, .int (nI (sT g ss n))), (9, .int (nI (sH g ss n))), (10, .int (nI nr))]) [0, 1, 2, 3, 4, 5, 6, 7, 8, 9, 10] rfl ?_
                  exact jp133 1 (by omega) (by omega)
                · -- 115 not taken
                  refine z_iload C dX3_choose_118 10 rfl ?_
                  refine z_if_eq C 132 (((nr : Nat) : Int) = (0 : Int)) (zi_eq (zi_N (n := nr) (by omega)) zi_0) dX3_choose_120 (by decide) (fun c20_ => ?_) (fun c20_ => ?_)
                  · -- 120 taken
                    refine z_iconst C (nI 0) dX3_choose_132 (by decide) ?_
                    refine z_sub (lv' := [(0, .ref m0), (1, .int (nI sf)), (2, .int (nI bs)), (3, .int (nI bt)), (4, .int (nI bh)), (5, .int (nI bn)), (6, .int (nI ss)), (7, .int (nI cn)), (8, .int (nI (sT g ss n))), (9, .int (nI (sH g ss n))), (10, .int (nI nr))]) [0, 1, 2, 3, 4, 5, 6, 7, 8, 9, 10] rfl ?_
                    exact jp133 0 (by omega) (by omega)
                  · -- 120 not taken
                    refine z_iload C dX3_choose_123 5 rfl ?_
                    refine z_if_ne C 132 (((bn : Nat) : Int) = (0 : Int)) (zi_eq (zi_N (n := bn) (by omega)) zi_0) dX3_choose_125 (by decide) (fun c21_ => ?_) (fun c21_ => ?_)
                    · -- 125 taken
                      refine z_iconst C (nI 0) dX3_choose_132 (by decide) ?_
                      refine z_sub (lv' := [(0, .ref m0), (1, .int (nI sf)), (2, .int (nI bs)), (3, .int (nI bt)), (4, .int (nI bh)), (5, .int (nI bn)), (6, .int (nI ss)), (7, .int (nI cn)), (8, .int (nI (sT g ss n))), (9, .int (nI (sH g ss n))), (10, .int (nI nr))]) [0, 1, 2, 3, 4, 5, 6, 7, 8, 9, 10] rfl ?_
                      exact jp133 0 (by omega) (by omega)
                    · -- 125 not taken
                      refine z_iconst C (nI 1) dX3_choose_128 (by decide) ?_
                      refine z_goto C 133 dX3_choose_129 (by decide) ?_
                      refine z_sub (lv' := [(0, .ref m0), (1, .int (nI sf)), (2, .int (nI bs)), (3, .int (nI bt)), (4, .int (nI bh)), (5, .int (nI bn)), (6, .int (nI ss)), (7, .int (nI cn)), (8, .int (nI (sT g ss n))), (9, .int (nI (sH g ss n))), (10, .int (nI nr))]) [0, 1, 2, 3, 4, 5, 6, 7, 8, 9, 10] rfl ?_
                      exact jp133 1 (by omega) (by omega)
              refine z_iload C dX3_choose_96 8 rfl ?_
              refine z_iload_n C dX3_choose_98 rfl 1 rfl ?_
              refine z_aload_n C dX3_choose_99 rfl 0 rfl ?_
              refine z_get (ref := "ShedwheelModel") (v := .int (nI sl)) C hin_X3_choose_X3 hLm hFm rfl 8 (by decide) (by decide +kernel) (fun _ h9 => h9) rfl dX3_choose_100 ?_
              refine z_iadd C (nI (sf + sl)) dX3_choose_103 (nI_add sf sl) ?_
              refine z_icmp_gt C 111 (((sf + sl : Nat) : Int) < ((sT g ss n : Nat) : Int)) (zi_lt (zi_N (n := sf + sl) (by omega)) (zi_N (n := sT g ss n) (by omega))) dX3_choose_104 (by decide) (fun c22_ => ?_) (fun c22_ => ?_)
              · -- 104 taken
                refine z_iconst C (nI 0) dX3_choose_111 (by decide) ?_
                refine z_sub (lv' := [(0, .ref m0), (1, .int (nI sf)), (2, .int (nI bs)), (3, .int (nI bt)), (4, .int (nI bh)), (5, .int (nI bn)), (6, .int (nI ss)), (7, .int (nI cn)), (8, .int (nI (sT g ss n))), (9, .int (nI (sH g ss n)))]) [0, 1, 2, 3, 4, 5, 6, 7, 8, 9] rfl ?_
                exact jp112 0 (by omega) (by omega)
              · -- 104 not taken
                refine z_iconst C (nI 1) dX3_choose_107 (by decide) ?_
                refine z_goto C 112 dX3_choose_108 (by decide) ?_
                refine z_sub (lv' := [(0, .ref m0), (1, .int (nI sf)), (2, .int (nI bs)), (3, .int (nI bt)), (4, .int (nI bh)), (5, .int (nI bn)), (6, .int (nI ss)), (7, .int (nI cn)), (8, .int (nI (sT g ss n))), (9, .int (nI (sH g ss n)))]) [0, 1, 2, 3, 4, 5, 6, 7, 8, 9] rfl ?_
                exact jp112 1 (by omega) (by omega)
            · -- 42 not taken
              have hbv := bitV_le ss k
              have hOk := hGg.1 k (by omega)
              obtain ⟨u1, u2, u3, u4, u5, u6, u7, u8⟩ := id hOk
              have t5 := sT_le (s := ss) (n := k) (fun j hj => hGg.1 j (by omega))
              have t6 := sH_le (s := ss) hnow (n := k) (fun j hj => hGg.1 j (by omega))
              have t7 : k * 1998 ≤ 12 * 1998 := Nat.mul_le_mul_right _ (by omega)
              have t8 : k * 60000 ≤ 12 * 60000 := Nat.mul_le_mul_right _ (by omega)
              have t9 := fTk_le hOk
              refine z_iload C dX3_choose_45 6 rfl ?_
              refine z_iload C dX3_choose_47 10 rfl ?_
              refine z_ishr C (nI (ss / 2 ^ k)) dX3_choose_49 (bit_of (by omega) (by omega)) ?_
              refine z_iconst C (nI 1) dX3_choose_50 (by decide) ?_
              refine z_iand C (nI (bitV ss k)) dX3_choose_51 (bit_and k (by omega)) ?_
              refine z_iconst C (nI 1) dX3_choose_52 (by decide) ?_
              refine z_icmp_ne C 90 (((bitV ss k : Nat) : Int) = ((1 : Nat) : Int)) (zi_eq (zi_N (n := bitV ss k) (by omega)) (zi_N (n := 1) (by omega))) dX3_choose_53 (by decide) (fun c23_ => ?_) (fun c23_ => ?_)
              · -- 53 taken
                refine z_iinc (v := nI (k + 1)) (lv' := [(10, .int (nI (k + 1))), (0, .ref m0), (1, .int (nI sf)), (2, .int (nI bs)), (3, .int (nI bt)), (4, .int (nI bh)), (5, .int (nI bn)), (6, .int (nI ss)), (7, .int (nI cn)), (8, .int (nI (sT g ss k))), (9, .int (nI (sH g ss k)))]) C dX3_choose_90 10 rfl (nI_add k 1) (by decide) rfl ?_
                refine z_goto C 36 dX3_choose_93 (by decide) ?_
                have e81 : sT g ss (k + 1) = sT g ss k := by rw [sT, if_neg (show ¬ bitV ss k = 1 by omega)]; rfl
                have e82 : sH g ss (k + 1) = sH g ss k := by rw [sH, if_neg (show ¬ bitV ss k = 1 by omega)]; rfl
                refine z_lvs (lv' := [(10, .int (nI (k + 1))), (0, .ref m0), (1, .int (nI sf)), (2, .int (nI bs)), (3, .int (nI bt)), (4, .int (nI bh)), (5, .int (nI bn)), (6, .int (nI ss)), (7, .int (nI cn)), (8, .int (nI (sT g ss (k + 1)))), (9, .int (nI (sH g ss (k + 1))))]) (by rw [e81, e82]) ?_
                refine z_sub (lv' := [(0, .ref m0), (1, .int (nI sf)), (2, .int (nI bs)), (3, .int (nI bt)), (4, .int (nI bh)), (5, .int (nI bn)), (6, .int (nI ss)), (7, .int (nI cn)), (8, .int (nI (sT g ss (k + 1)))), (9, .int (nI (sH g ss (k + 1)))), (10, .int (nI (k + 1)))]) [1, 2, 3, 4, 5, 6, 7, 8, 9, 10, 0] rfl ?_
                exact ih36 (k + 1) cn (by omega) hcn (cn_skip hcf (by omega)) (by omega)
              · -- 53 not taken
                refine z_iload C dX3_choose_56 7 rfl ?_
                refine z_aload_n C dX3_choose_58 rfl 0 rfl ?_
                refine z_iload C dX3_choose_59 10 rfl ?_
                refine z_callV (As := [.int (nI k)]) (st := [.int (nI cn)]) (mc := 0) (ms := 0) C hLm hFm rfl (c_X3_isFree l hlst G L F m0 c0 c1 c2 c3 c4 c5 c6 n now sl thr g hmo k (by omega)) (cwV 1 C.1.2.2.2.2 gX3_choose_X3_isFree rfl rfl rfl (by decide +kernel) ⟨Nat.le_of_ble_eq_true rfl, Nat.le_of_ble_eq_true rfl⟩) rfl (Nat.le_of_ble_eq_true rfl) ⟨Nat.le_of_ble_eq_true rfl, Nat.le_of_ble_eq_true rfl⟩ dX3_choose_61 (z_p ?_)
                refine z_stk (st' := [.int (nI (if fOf (g k) = 0 ∧ fCr (g k) = 0 then 1 else 0)), .int (nI cn)]) rfl ?_
                refine z_iand C (nI (if cn = 1 ∧ (fOf (g k) = 0 ∧ fCr (g k) = 0) then 1 else 0)) dX3_choose_64 (and_bool hcn) ?_
                refine z_istore (lv' := [(7, .int (nI (if cn = 1 ∧ (fOf (g k) = 0 ∧ fCr (g k) = 0) then 1 else 0))), (0, .ref m0), (1, .int (nI sf)), (2, .int (nI bs)), (3, .int (nI bt)), (4, .int (nI bh)), (5, .int (nI bn)), (6, .int (nI ss)), (8, .int (nI (sT g ss k))), (9, .int (nI (sH g ss k))), (10, .int (nI k))]) C dX3_choose_65 (by decide) rfl ?_
                refine z_iload C dX3_choose_67 8 rfl ?_
                refine z_aload_n C dX3_choose_69 rfl 1 rfl ?_
                refine z_iload C dX3_choose_70 10 rfl ?_
                refine z_callV (As := [.int (nI k)]) (st := [.int (nI (sT g ss k))]) (mc := 0) (ms := 0) C hLm hFm rfl (c_X3_takesOf l hlst G L F m0 c0 c1 c2 c3 c4 c5 c6 n now sl thr g hmo k (by omega)) (cwV 1 C.1.2.2.2.2 gX3_choose_X3_takesOf rfl rfl rfl (by decide +kernel) ⟨Nat.le_of_ble_eq_true rfl, Nat.le_of_ble_eq_true rfl⟩) rfl (Nat.le_of_ble_eq_true rfl) ⟨Nat.le_of_ble_eq_true rfl, Nat.le_of_ble_eq_true rfl⟩ dX3_choose_72 (z_p ?_)
                refine z_stk (st' := [.int (nI (fTk (g k))), .int (nI (sT g ss k))]) rfl ?_
                refine z_iadd C (nI (sT g ss k + fTk (g k))) dX3_choose_75 (nI_add (sT g ss k) (fTk (g k))) ?_
                refine z_istore (lv' := [(8, .int (nI (sT g ss k + fTk (g k)))), (7, .int (nI (if cn = 1 ∧ (fOf (g k) = 0 ∧ fCr (g k) = 0) then 1 else 0))), (0, .ref m0), (1, .int (nI sf)), (2, .int (nI bs)), (3, .int (nI bt)), (4, .int (nI bh)), (5, .int (nI bn)), (6, .int (nI ss)), (9, .int (nI (sH g ss k))), (10, .int (nI k))]) C dX3_choose_76 (by decide) rfl ?_
                refine z_iload C dX3_choose_78 9 rfl ?_
                refine z_aload_n C dX3_choose_80 rfl 2 rfl ?_
                refine z_get (ref := "ShedwheelModel") (v := .ref c4) C hin_X3_choose_X3 hLm hFm rfl 4 (by decide) (by decide +kernel) (fun _ h9 => h9) rfl dX3_choose_81 ?_
                refine z_iload C dX3_choose_84 10 rfl ?_
                refine z_iald C hLc4 hFc4 (by omega) (by omega) dX3_choose_86 (nI (fHo (g k))) (rfl) ?_
                refine z_iadd C (nI (sH g ss k + fHo (g k))) dX3_choose_87 (nI_add (sH g ss k) (fHo (g k))) ?_
                refine z_istore (lv' := [(9, .int (nI (sH g ss k + fHo (g k)))), (8, .int (nI (sT g ss k + fTk (g k)))), (7, .int (nI (if cn = 1 ∧ (fOf (g k) = 0 ∧ fCr (g k) = 0) then 1 else 0))), (0, .ref m0), (1, .int (nI sf)), (2, .int (nI bs)), (3, .int (nI bt)), (4, .int (nI bh)), (5, .int (nI bn)), (6, .int (nI ss)), (10, .int (nI k))]) C dX3_choose_88 (by decide) rfl ?_
                refine z_iinc (v := nI (k + 1)) (lv' := [(10, .int (nI (k + 1))), (9, .int (nI (sH g ss k + fHo (g k)))), (8, .int (nI (sT g ss k + fTk (g k)))), (7, .int (nI (if cn = 1 ∧ (fOf (g k) = 0 ∧ fCr (g k) = 0) then 1 else 0))), (0, .ref m0), (1, .int (nI sf)), (2, .int (nI bs)), (3, .int (nI bt)), (4, .int (nI bh)), (5, .int (nI bn)), (6, .int (nI ss))]) C dX3_choose_90 10 rfl (nI_add k 1) (by decide) rfl ?_
                refine z_goto C 36 dX3_choose_93 (by decide) ?_
                have e81 : sT g ss (k + 1) = sT g ss k + fTk (g k) := by rw [sT, if_pos (show bitV ss k = 1 by omega)]
                have e82 : sH g ss (k + 1) = sH g ss k + fHo (g k) := by rw [sH, if_pos (show bitV ss k = 1 by omega)]
                refine z_lvs (lv' := [(10, .int (nI (k + 1))), (9, .int (nI (sH g ss (k + 1)))), (8, .int (nI (sT g ss (k + 1)))), (7, .int (nI (if cn = 1 ∧ (fOf (g k) = 0 ∧ fCr (g k) = 0) then 1 else 0))), (0, .ref m0), (1, .int (nI sf)), (2, .int (nI bs)), (3, .int (nI bt)), (4, .int (nI bh)), (5, .int (nI bn)), (6, .int (nI ss))]) (by rw [e81, e82]) ?_
                refine z_sub (lv' := [(0, .ref m0), (1, .int (nI sf)), (2, .int (nI bs)), (3, .int (nI bt)), (4, .int (nI bh)), (5, .int (nI bn)), (6, .int (nI ss)), (7, .int (nI (if cn = 1 ∧ (fOf (g k) = 0 ∧ fCr (g k) = 0) then 1 else 0))), (8, .int (nI (sT g ss (k + 1)))), (9, .int (nI (sH g ss (k + 1)))), (10, .int (nI (k + 1)))]) [4, 5, 6, 7, 8, 9, 10, 3, 2, 1, 0] rfl ?_
                exact ih36 (k + 1) (if cn = 1 ∧ (fOf (g k) = 0 ∧ fCr (g k) = 0) then 1 else 0) (by omega) (by split <;> omega) (cn_take hcf (by omega)) (by omega)
        exact lp36 _ 0 1 (Nat.zero_le _) (by omega) ⟨fun _ j hj => absurd hj (Nat.not_lt_zero j), fun _ => rfl⟩ (Nat.lt_succ_self _)
  exact lp13 _ 1 0 0 0 0 (Nat.le_refl _) (Nat.pow_pos (by decide)) (chI_0 hsf.1) (fun _ => ⟨rfl, rfl⟩) (by omega) (fun h9 => absurd rfl h9) (fun _ => rfl) (Nat.lt_succ_self _)
