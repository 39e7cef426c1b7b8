-- bits out of marks
def bsV (f : Nat → Nat) : Nat → Nat
  | 0 => 0
  | k + 1 => bsV f k + if f k = 1 then 2 ^ k else 0
theorem bsV_lt (f : Nat → Nat) : ∀ k, bsV f k < 2 ^ k
  | 0 => by show (0 : Nat) < 1; omega
  | k + 1 => by
    have := bsV_lt f k
    rw [bsV, Nat.pow_succ]
    split <;> omega
theorem bsV_bit {f : Nat → Nat} : ∀ {n k : Nat}, k < n → (bitV (bsV f n) k = 1 ↔ f k = 1)
  | n + 1, k, hk => by
    have hl := bsV_lt f n
    rw [bsV]
    by_cases c : f n = 1
    · rw [if_pos c]
      rcases Nat.lt_or_ge k n with q | q
      · rw [(bitV_add hl).2 k q]; exact bsV_bit q
      · obtain rfl : k = n := by omega
        exact ⟨fun _ => c, fun _ => (bitV_add hl).1⟩
    · rw [if_neg c, Nat.add_zero]
      rcases Nat.lt_or_ge k n with q | q
      · exact bsV_bit q
      · obtain rfl : k = n := by omega
        rw [bitV_hi hl]
        exact ⟨fun h9 => absurd h9 (by decide), fun h9 => absurd h9 c⟩
theorem bsV_cong {f g : Nat → Nat} : ∀ {n : Nat}, (∀ j, j < n → f j = g j) → bsV f n = bsV g n
  | 0, _ => rfl
  | n + 1, h => by rw [bsV, bsV, bsV_cong (n := n) (fun j hj => h j (by omega)), h n (by omega)]
theorem bsV_z {f : Nat → Nat} : ∀ {n : Nat}, (∀ j, j < n → ¬ f j = 1) → bsV f n = 0
  | 0, _ => rfl
  | n + 1, h => by rw [bsV, bsV_z (n := n) (fun j hj => h j (by omega)), if_neg (h n (by omega))]
abbrev oW (fd : Nat → FdT) (n : Nat) : Nat := bsV (fun j => fOf (fd j)) n
abbrev cW (fd : Nat → FdT) (n : Nat) : Nat := bsV (fun j => fCr (fd j)) n
theorem oW_bit {fd : Nat → FdT} {n j : Nat} (hj : j < n) : bitV (oW fd n) j = 1 ↔ fOf (fd j) = 1 := bsV_bit hj
theorem cW_bit {fd : Nat → FdT} {n j : Nat} (hj : j < n) : bitV (cW fd n) j = 1 ↔ fCr (fd j) = 1 := bsV_bit hj
theorem p2_le {n : Nat} (hn : n ≤ 12) : 2 ^ n ≤ 4096 := Nat.le_trans (Nat.pow_le_pow_right (by decide) hn) (by decide)
theorem oW_lt {fd : Nat → FdT} {n : Nat} (hn : n ≤ 12) : oW fd n < 4096 := Nat.lt_of_lt_of_le (bsV_lt _ n) (p2_le hn)
theorem cW_lt {fd : Nat → FdT} {n : Nat} (hn : n ≤ 12) : cW fd n < 4096 := Nat.lt_of_lt_of_le (bsV_lt _ n) (p2_le hn)
theorem or_hit {f : Nat → Nat} {k : Nat} (h : f k = 1) : nI (bsV f k) ||| nI (2 ^ k) = nI (bsV f (k + 1)) := by
  rw [nI_or, or_low (bsV_lt f k), bsV, if_pos h]
theorem or_miss {f : Nat → Nat} {k : Nat} (h : ¬ f k = 1) : nI (bsV f k) ||| nI 0 = nI (bsV f (k + 1)) := by
  rw [nI_or, Nat.or_zero, bsV, if_neg h, Nat.add_zero]
theorem bit_tb (s k : Nat) : bitV s k = 1 ↔ s.testBit k = true := by
  unfold bitV
  rw [Nat.testBit_eq_decide_div_mod_eq, decide_eq_true_iff]
theorem tb_ext {a b n : Nat} (ha : a < 2 ^ n) (hb : b < 2 ^ n) (h : ∀ j, j < n → (bitV a j = 1 ↔ bitV b j = 1)) : a = b := Nat.eq_of_testBit_eq (fun i => by
  rcases Nat.lt_or_ge i n with c | c
  · have h9 := h i c
    rw [bit_tb, bit_tb] at h9
    exact Bool.eq_iff_iff.mpr h9
  · have hp : 2 ^ n ≤ 2 ^ i := Nat.pow_le_pow_right (by decide) c
    rw [Nat.testBit_lt_two_pow (Nat.lt_of_lt_of_le ha hp), Nat.testBit_lt_two_pow (Nat.lt_of_lt_of_le hb hp)])
theorem bit_lt {a n j : Nat} (h : a < 2 ^ n) (hb : bitV a j = 1) : j < n := by
  rcases Nat.lt_or_ge j n with c | c
  · exact c
  · have hp : 2 ^ n ≤ 2 ^ j := Nat.pow_le_pow_right (by decide) c
    rw [bitV_hi (Nat.lt_of_lt_of_le h hp)] at hb
    exact absurd hb (by decide)
def mnV (a c : Nat) : Nat := a ^^^ (a &&& c)
theorem mn_tb {a c k : Nat} : bitV (mnV a c) k = 1 ↔ bitV a k = 1 ∧ ¬ bitV c k = 1 := by
  rw [bit_tb, bit_tb, bit_tb, mnV, Nat.testBit_xor, Nat.testBit_and]
  cases a.testBit k <;> cases c.testBit k <;> decide
theorem or_tb {a c k : Nat} : bitV (a ||| c) k = 1 ↔ bitV a k = 1 ∨ bitV c k = 1 := by
  rw [bit_tb, bit_tb, bit_tb, Nat.testBit_or]
  cases a.testBit k <;> cases c.testBit k <;> decide
theorem an_tb {a c k : Nat} : bitV (a &&& c) k = 1 ↔ bitV a k = 1 ∧ bitV c k = 1 := by
  rw [bit_tb, bit_tb, bit_tb, Nat.testBit_and]
  cases a.testBit k <;> cases c.testBit k <;> decide
theorem mn_lt {a c n : Nat} (h : a < 2 ^ n) : mnV a c < 2 ^ n := Nat.xor_lt_two_pow h (Nat.lt_of_le_of_lt Nat.and_le_left h)
theorem mn_0 (c : Nat) : mnV 0 c = 0 := by
  unfold mnV
  rw [Nat.zero_and]; rfl
theorem nx_and (a b : Nat) : nI a &&& nI b = nI (a &&& b) := by
  apply Int32.toBitVec_inj.1
  show BitVec.ofNat 32 a &&& BitVec.ofNat 32 b = BitVec.ofNat 32 (a &&& b)
  apply BitVec.eq_of_getLsbD_eq
  intro i hi
  simp [hi]
theorem nx_xor (a b : Nat) : nI a ^^^ nI b = nI (a ^^^ b) := by
  apply Int32.toBitVec_inj.1
  show BitVec.ofNat 32 a ^^^ BitVec.ofNat 32 b = BitVec.ofNat 32 (a ^^^ b)
  apply BitVec.eq_of_getLsbD_eq
  intro i hi
  simp [hi]
theorem nx_m1 : ∀ i, i < 32 → (-1 : Int32).toBitVec.getLsbD i = true := by decide +kernel
theorem mn_x (x y : Int32) : x &&& (y ^^^ (-1)) = x ^^^ (x &&& y) := by
  apply Int32.toBitVec_inj.1
  rw [Int32.toBitVec_and, Int32.toBitVec_xor, Int32.toBitVec_xor, Int32.toBitVec_and]
  apply BitVec.eq_of_getLsbD_eq
  intro i hi
  rw [BitVec.getLsbD_and, BitVec.getLsbD_xor, BitVec.getLsbD_xor, BitVec.getLsbD_and, nx_m1 i hi]
  cases x.toBitVec.getLsbD i <;> cases y.toBitVec.getLsbD i <;> rfl
theorem mnx_nI (a c : Nat) : nI a &&& (nI c ^^^ (-1)) = nI (mnV a c) := by
  rw [mn_x, nx_and, nx_xor]; rfl
theorem and_off {a c : Nat} (h : ∀ j, bitV a j = 1 → ¬ bitV c j = 1) : a &&& c = 0 := Nat.eq_of_testBit_eq (fun i => by
  have h9 := h i
  rw [bit_tb, bit_tb] at h9
  rw [Nat.testBit_and, Nat.zero_testBit]
  revert h9
  cases a.testBit i <;> cases c.testBit i <;> decide)
theorem and_in {a c : Nat} (h : ∀ j, bitV a j = 1 → bitV c j = 1) : a &&& c = a := Nat.eq_of_testBit_eq (fun i => by
  have h9 := h i
  rw [bit_tb, bit_tb] at h9
  rw [Nat.testBit_and]
  revert h9
  cases a.testBit i <;> cases c.testBit i <;> decide)
theorem and_0 {a c j : Nat} (h : a &&& c = 0) (h1 : bitV a j = 1) : ¬ bitV c j = 1 := by
  intro h2
  have h3 := an_tb.mpr ⟨h1, h2⟩
  rw [h] at h3
  unfold bitV at h3
  rw [Nat.zero_div] at h3
  exact absurd h3 (by decide)
theorem p2_bit {n j : Nat} (h : j < n) : bitV (2 ^ n - 1) j = 1 := by
  rw [bit_tb, Nat.testBit_two_pow_sub_one]
  exact decide_eq_true h
theorem p2_sub {n : Nat} : nI (2 ^ n) - nI 1 = nI (2 ^ n - 1) := pk_sub (a := 2 ^ n) (b := 1) Nat.one_le_two_pow
theorem p2_lt {n : Nat} : 2 ^ n - 1 < 2 ^ n := by
  have := Nat.two_pow_pos n
  omega
-- sums
theorem sT_1 {fd : Nat → FdT} {s k : Nat} (h : bitV s k = 1) : sT fd s (k + 1) = sT fd s k + fTk (fd k) := by rw [sT, if_pos h]
theorem sT_n {fd : Nat → FdT} {s k : Nat} (h : ¬ bitV s k = 1) : sT fd s (k + 1) = sT fd s k + 0 := by rw [sT, if_neg h]
theorem smV_mono {f : Nat → Nat} {k : Nat} : ∀ {n : Nat}, k ≤ n → smV f k ≤ smV f n
  | 0, h => by
    obtain rfl : k = 0 := by omega
    exact Nat.le_refl _
  | n + 1, h => by
    rcases Nat.lt_or_ge k (n + 1) with c | c
    · rw [smV_s]
      exact Nat.le_trans (smV_mono (n := n) (by omega)) (Nat.le_add_right _ _)
    · obtain rfl : k = n + 1 := by omega
      exact Nat.le_refl _
theorem smV_z {f : Nat → Nat} {n : Nat} (h : smV f n = 0) {j : Nat} (hj : j < n) : f j = 0 := by
  have h1 := smV_mono (f := f) (show j + 1 ≤ n by omega)
  rw [smV_s] at h1
  omega
theorem smV_le2 {f g : Nat → Nat} : ∀ {n : Nat}, (∀ j, j < n → f j ≤ g j) → smV f n ≤ smV g n
  | 0, _ => Nat.le_refl _
  | n + 1, h => by
    rw [smV_s, smV_s]
    exact Nat.add_le_add (smV_le2 (n := n) (fun j hj => h j (by omega))) (h n (by omega))
theorem smV_12 {f : Nat → Nat} {n B : Nat} (hn : n ≤ 12) (h : ∀ j, j < n → f j ≤ B) : smV f n ≤ 12 * B := Nat.le_trans (smV_le h) (Nat.mul_le_mul_right _ hn)
theorem sub_step {f : Nat → Nat} {k n A : Nat} (hk : k < n) (hA : smV f n = A) : nI (A - smV f k) - nI (f k) = nI (A - smV f (k + 1)) := by
  have h1 := smV_mono (f := f) (show k + 1 ≤ n by omega)
  rw [smV_s] at h1
  rw [pk_sub (by omega), smV_s]
  congr 1
  omega
-- what relief leaves
def fZ (n : Nat) (fd : Nat → FdT) : Prop := ∀ j, j < n → fOf (fd j) = 1 → fCo (fd j) = 0
def fN (n : Nat) (fd g : Nat → FdT) : Prop := (∀ j, j < n → fCr (g j) = fCr (fd j)) ∧ fZ n g
theorem fdK_lt {g : Nat → FdT → FdT} {fd : Nat → FdT} {n j : Nat} (h : j < n) : fdK g fd n j = g j (fd j) := by
  unfold fdK; rw [if_pos h]
theorem isB_lt {n : Nat} {fd : Nat → FdT} {sl sf b : Nat} (hn : n ≤ 12) (h : isB n fd sl sf b) : b < 2 ^ n ∧ b < 4096 := by
  have hp := p2_le hn
  rcases h with ⟨rfl, -⟩ | ⟨h1, -⟩
  · exact ⟨Nat.two_pow_pos n, by decide⟩
  · exact ⟨h1.1, Nat.lt_of_lt_of_le h1.1 hp⟩
theorem isB_sT {n : Nat} {fd : Nat → FdT} {sl sf b : Nat} (h : isB n fd sl sf b) (h0 : ¬ b = 0) : sf ≤ sT fd b n := by
  rcases h with ⟨h1, -⟩ | ⟨h1, -⟩
  · exact absurd h1 h0
  · exact h1.2.2
theorem isB_z {n : Nat} {fd : Nat → FdT} {sl sf : Nat} (h1 : 1 ≤ sf) (hb : isB n fd sl sf 0) (hok : ∀ j, j < n → fOf (fd j) ≤ 1 ∧ fCr (fd j) ≤ 1) : sT fd (mnV (mnV (2 ^ n - 1) (cW fd n)) (oW fd n)) n < sf := by
  have hno : ∀ s, ¬ cand n fd sf s := by
    rcases hb with ⟨-, h2⟩ | ⟨h2, -⟩
    · exact h2
    · have h3 := h2.2.2
      rw [sT_0] at h3
      omega
  apply Nat.lt_of_not_le
  intro h9
  refine hno _ ⟨mn_lt (mn_lt p2_lt), fun j hj hbj => ?_, h9⟩
  obtain ⟨q0, q2⟩ := mn_tb.mp hbj
  obtain ⟨-, q1⟩ := mn_tb.mp q0
  have q3 : ¬ fCr (fd j) = 1 := fun e => q1 ((cW_bit hj).mpr e)
  have q4 : ¬ fOf (fd j) = 1 := fun e => q2 ((oW_bit hj).mpr e)
  have := hok j hj
  exact ⟨by omega, by omega⟩
theorem isB_off {n : Nat} {fd : Nat → FdT} {sl sf b : Nat} (hb : isB n fd sl sf b) : nI b &&& nI (oW fd n) = nI 0 := by
  rw [nx_and, and_off (fun j h1 h2 => ?_)]
  have hj := bit_lt (bsV_lt _ n) h2
  have h3 := isB_free hb hj h1
  have h4 := (oW_bit hj).mp h2
  omega
theorem isB_crit {n : Nat} {fd : Nat → FdT} {sl sf b : Nat} (hb : isB n fd sl sf b) : nI b &&& nI (cW fd n) = nI 0 := by
  rw [nx_and, and_off (fun j h1 h2 => ?_)]
  have hj := bit_lt (bsV_lt _ n) h2
  have h3 := isB_free hb hj h1
  have h4 := (cW_bit hj).mp h2
  omega
theorem reT_sT {fd : Nat → FdT} {b : Nat} : ∀ n, smV (fun i => reT b i (fd i)) n = sT fd b n
  | 0 => rfl
  | n + 1 => by rw [smV_s, sT, reT_sT n]; rfl
theorem fTk_off (r : FdT) : fTk (fOff r) = 0 := rfl
theorem rel_out {n : Nat} {fd : Nat → FdT} {b : Nat} (hb : b < 2 ^ n) : nI (oW fd n) ||| nI b = nI (oW (fdK (fun i r => reG b i r) fd n) n) := by
  rw [nI_or]
  congr 1
  refine tb_ext (Nat.or_lt_two_pow (bsV_lt _ n) hb) (bsV_lt _ n) (fun j hj => ?_)
  have e : fOf (fdK (fun i r => reG b i r) fd n j) = if bitV b j = 1 then 1 else fOf (fd j) := by
    rw [fdK_lt hj]
    show fOf (reG b j (fd j)) = _
    unfold reG
    by_cases c : bitV b j = 1
    · rw [if_pos c, if_pos c]; rfl
    · rw [if_neg c, if_neg c]
  rw [or_tb, oW_bit hj, oW_bit hj, e]
  by_cases c : bitV b j = 1
  · rw [if_pos c]; exact ⟨fun _ => rfl, fun _ => Or.inr c⟩
  · rw [if_neg c]; exact ⟨fun h => h.resolve_right c, fun h => Or.inl h⟩
theorem rel_load {fd g : Nat → FdT} {b : Nat} : ∀ {k : Nat}, (∀ j, j < k → g j = reG b j (fd j)) → smV (fun j => fTk (g j)) k + sT fd b k = smV (fun j => fTk (fd j)) k
  | 0, _ => rfl
  | k + 1, h => by
    have ih := rel_load (k := k) (fun j hj => h j (by omega))
    have e := h k (by omega)
    rw [smV_s, smV_s, sT]
    show smV (fun j => fTk (g j)) k + fTk (g k) + (sT fd b k + if bitV b k = 1 then fTk (fd k) else 0) = smV (fun j => fTk (fd j)) k + fTk (fd k)
    rw [e]
    unfold reG
    by_cases c : bitV b k = 1
    · rw [if_pos c, if_pos c, fTk_off]; omega
    · rw [if_neg c, if_neg c]; omega
theorem rel_sub {n : Nat} {fd : Nat → FdT} {b : Nat} : nI (smV (fun j => fTk (fd j)) n) - nI (sT fd b n) = nI (smV (fun j => fTk (fdK (fun i r => reG b i r) fd n j)) n) := by
  have h := rel_load (fd := fd) (g := fdK (fun i r => reG b i r) fd n) (b := b) (k := n) (fun j hj => fdK_lt hj)
  rw [pk_sub (by omega)]
  congr 1
  omega
theorem rel_fN {n : Nat} {fd : Nat → FdT} {b : Nat} (hz : fZ n fd) : fN n fd (fdK (fun i r => reG b i r) fd n) := by
  refine ⟨fun j hj => ?_, fun j hj => ?_⟩
  · rw [fdK_lt hj]
    show fCr (reG b j (fd j)) = _
    unfold reG
    split <;> rfl
  · rw [fdK_lt hj]
    show fOf (reG b j (fd j)) = 1 → fCo (reG b j (fd j)) = 0
    unfold reG
    split
    · exact fun _ => rfl
    · exact hz j hj
-- what turns leave
def cdV (r : FdT) : Nat := if fOf r = 1 then fRs r else 0
theorem fTk_le_rs (r : FdT) : fTk r ≤ fRs r := by
  unfold fTk fRs tkV rsV
  split
  · exact Nat.le_refl _
  · exact Nat.zero_le _
theorem fRs_cd {r : FdT} (h : fOf r ≤ 1) : fRs r = fTk r + cdV r := by
  unfold cdV
  by_cases c : fOf r = 0
  · rw [if_neg (by omega)]
    unfold fTk fRs tkV rsV
    rw [if_pos c, if_pos c]; rfl
  · rw [if_pos (by omega)]
    unfold fTk tkV
    rw [if_neg c, Nat.zero_add]
theorem cd_sum {fd : Nat → FdT} : ∀ {n : Nat}, (∀ j, j < n → fOf (fd j) ≤ 1) → smV (fun j => fRs (fd j)) n = smV (fun j => fTk (fd j)) n + smV (fun j => cdV (fd j)) n
  | 0, _ => rfl
  | n + 1, h => by
    have ih := cd_sum (n := n) (fun j hj => h j (by omega))
    have e := fRs_cd (h n (by omega))
    rw [smV_s, smV_s, smV_s, ih]
    show _ + fRs (fd n) = _ + fTk (fd n) + (_ + cdV (fd n))
    omega
theorem cd_nI {fd : Nat → FdT} {n : Nat} (h : ∀ j, j < n → fOf (fd j) ≤ 1) : nI (smV (fun j => fRs (fd j)) n) - nI (smV (fun j => fTk (fd j)) n) = nI (smV (fun j => cdV (fd j)) n) := by
  have e := cd_sum h
  rw [pk_sub (by omega)]
  congr 1
  omega
theorem cd_pos {n now cr : Nat} {fd : Nat → FdT} (hok : ∀ j, j < n → fOk now (fd j)) (h : ¬ mnV (oW fd n) cr = 0) : 1 ≤ smV (fun j => cdV (fd j)) n := by
  apply Nat.pos_of_ne_zero
  intro h0
  apply h
  have e : oW fd n = 0 := bsV_z (fun j hj h1 => by
    have h2 : cdV (fd j) = 0 := smV_z h0 hj
    have h3 : fOf (fd j) = 1 := h1
    unfold cdV at h2
    rw [if_pos h3] at h2
    have := fRs_pos (hok j hj)
    omega)
  rw [e, mn_0]
theorem no_crit {n : Nat} {fd : Nat → FdT} (h : oW fd n &&& cW fd n = 0) : ∀ j, j < n → fOf (fd j) = 1 → ¬ fCr (fd j) = 1 := fun j hj h1 h2 => and_0 h ((oW_bit hj).mpr h1) ((cW_bit hj).mpr h2)
theorem rt_cd {n now : Nat} {fd : Nat → FdT} (hok : ∀ j, j < n → fOk now (fd j)) (h : oW fd n &&& cW fd n = 0) : smV (fun j => rtV (fd j)) n = smV (fun j => cdV (fd j)) n := smV_cong (fun j hj => by
  show rtV (fd j) = cdV (fd j)
  obtain ⟨u1, u2, u3, u4, u5, u6, u7, u8⟩ := hok j hj
  unfold rtV cdV
  by_cases c : fOf (fd j) = 1
  · have := no_crit h j hj c
    rw [if_pos ⟨c, by omega⟩, if_pos c]
  · rw [if_neg (fun q => c q.1), if_neg c])
theorem sw_due {n now : Nat} {fd : Nat → FdT} (hok : ∀ j, j < n → fOk now (fd j)) : smV (fun j => swT (fd j)) n = smV (fun j => bitV (mnV (oW fd n) (cW fd n)) j) n := smV_cong (fun j hj => by
  show swT (fd j) = bitV (mnV (oW fd n) (cW fd n)) j
  obtain ⟨u1, u2, u3, u4, u5, u6, u7, u8⟩ := hok j hj
  have hb := bitV_le (mnV (oW fd n) (cW fd n)) j
  have hi : bitV (mnV (oW fd n) (cW fd n)) j = 1 ↔ fOf (fd j) = 1 ∧ ¬ fCr (fd j) = 1 := by rw [mn_tb, oW_bit hj, cW_bit hj]
  unfold swT
  by_cases c : fOf (fd j) = 1 ∧ fCr (fd j) = 0
  · rw [if_pos c]
    exact (hi.mpr ⟨c.1, by omega⟩).symm
  · rw [if_neg c]
    have : ¬ bitV (mnV (oW fd n) (cW fd n)) j = 1 := fun q => c ⟨(hi.mp q).1, by have := (hi.mp q).2; omega⟩
    omega)
theorem rot_out {n now sl sf b : Nat} {fd : Nat → FdT} (hn : n ≤ 12) (hok : ∀ j, j < n → fOk now (fd j)) (h : oW fd n &&& cW fd n = 0) (hb : isB n fd sl sf b) : oW (fdK (fun i r => swG b i r) fd n) n = b := by
  refine tb_ext (bsV_lt _ n) (isB_lt hn hb).1 (fun j hj => ?_)
  obtain ⟨u1, u2, u3, u4, u5, u6, u7, u8⟩ := hok j hj
  rw [oW_bit hj, fdK_lt hj]
  show fOf (swG b j (fd j)) = 1 ↔ _
  have hc := no_crit h j hj
  have hf := fun q => isB_free hb (k := j) hj q
  unfold swG
  by_cases c : fOf (fd j) = 1 ∧ fCr (fd j) = 0
  · rw [if_pos c]
    exact ⟨fun q => absurd (show (0 : Nat) = 1 from q) (by decide), fun q => by have := (hf q).1; omega⟩
  · rw [if_neg c]
    by_cases d : bitV b j = 1
    · rw [if_pos d]; exact ⟨fun _ => d, fun _ => rfl⟩
    · rw [if_neg d]
      exact ⟨fun q => absurd ⟨q, by have := hc q; omega⟩ c, fun q => absurd q d⟩
theorem rot_on {n sl sf b : Nat} {fd : Nat → FdT} (hn : n ≤ 12) (hb : isB n fd sl sf b) : nI b &&& nI (mnV (2 ^ n - 1) (oW fd n)) = nI b := by
  rw [nx_and, and_in (fun j h1 => ?_)]
  have hj := bit_lt (isB_lt hn hb).1 h1
  refine mn_tb.mpr ⟨p2_bit hj, fun h2 => ?_⟩
  have h3 := isB_free hb hj h1
  have h4 := (oW_bit hj).mp h2
  omega
theorem rot_ho {n b : Nat} {fd : Nat → FdT} : smV (fun j => fHo (fdK (fun i r => swG b i r) fd n j)) n = smV (fun j => fHo (fd j)) n := smV_cong (fun j hj => by
  show fHo (fdK (fun i r => swG b i r) fd n j) = fHo (fd j)
  rw [fdK_lt hj]
  show fHo (swG b j (fd j)) = _
  unfold swG
  split
  · rfl
  · split <;> rfl)
theorem fTk_on {r : FdT} (h : fOf r = 1) : fTk (fOn r) = fRs r := by
  have e : fTk (fOn r) = fMw r * (100 + crV (fTh r)) / 100 := rfl
  rw [e]
  unfold fRs rsV
  rw [if_neg (by omega)]
theorem fTk_cut {r : FdT} (h : fOf r = 1) : fTk r = 0 := by
  unfold fTk tkV
  rw [if_neg (by omega)]
theorem rot_load {fd g : Nat → FdT} {b : Nat} : ∀ {k : Nat}, (∀ j, j < k → fOf (fd j) ≤ 1 ∧ (fOf (fd j) = 1 → fCr (fd j) = 0) ∧ (bitV b j = 1 → fOf (fd j) = 0)) → (∀ j, j < k → g j = swG b j (fd j)) → smV (fun j => fTk (g j)) k + sT fd b k = smV (fun j => fTk (fd j)) k + smV (fun j => cdV (fd j)) k
  | 0, _, _ => rfl
  | k + 1, h, hg => by
    have ih := rot_load (k := k) (fun j hj => h j (by omega)) (fun j hj => hg j (by omega))
    have e := hg k (by omega)
    obtain ⟨h1, h2, h3⟩ := h k (by omega)
    rw [smV_s, smV_s, smV_s, sT]
    show smV (fun j => fTk (g j)) k + fTk (g k) + (sT fd b k + if bitV b k = 1 then fTk (fd k) else 0) = smV (fun j => fTk (fd j)) k + fTk (fd k) + (smV (fun j => cdV (fd j)) k + cdV (fd k))
    rw [e]
    by_cases c : fOf (fd k) = 1
    · rw [show swG b k (fd k) = fOn (fd k) from by rw [swG, if_pos ⟨c, h2 c⟩], show cdV (fd k) = fRs (fd k) from by rw [cdV, if_pos c], if_neg (fun q => by have := h3 q; omega), fTk_on c, fTk_cut c]
      omega
    · rw [show cdV (fd k) = 0 from by rw [cdV, if_neg c]]
      by_cases d : bitV b k = 1
      · rw [show swG b k (fd k) = fOff (fd k) from by rw [swG, if_neg (fun q => c q.1), if_pos d], if_pos d, fTk_off]; omega
      · rw [show swG b k (fd k) = fd k from by rw [swG, if_neg (fun q => c q.1), if_neg d], if_neg d]; omega
theorem rot_le {n now sl b : Nat} {fd : Nat → FdT} (hok : ∀ j, j < n → fOk now (fd j)) (h : oW fd n &&& cW fd n = 0) (hb : isB n fd sl (smV (fun j => cdV (fd j)) n) b) (h0 : ¬ b = 0) : smV (fun j => fTk (fdK (fun i r => swG b i r) fd n j)) n ≤ smV (fun j => fTk (fd j)) n := by
  have h1 := rot_load (fd := fd) (g := fdK (fun i r => swG b i r) fd n) (b := b) (k := n) (fun j hj => by
    obtain ⟨u1, u2, u3, u4, u5, u6, u7, u8⟩ := hok j hj
    exact ⟨u5, fun q => by have := no_crit h j hj q; omega, fun q => (isB_free hb hj q).1⟩) (fun j hj => fdK_lt hj)
  have h2 := isB_sT hb h0
  omega
theorem rot_fN {n : Nat} {fd : Nat → FdT} {b : Nat} (hz : fZ n fd) : fN n fd (fdK (fun i r => swG b i r) fd n) := by
  refine ⟨fun j hj => ?_, fun j hj => ?_⟩
  · rw [fdK_lt hj]
    show fCr (swG b j (fd j)) = _
    unfold swG
    split
    · rfl
    · split <;> rfl
  · rw [fdK_lt hj]
    show fOf (swG b j (fd j)) = 1 → fCo (swG b j (fd j)) = 0
    unfold swG
    split
    · exact fun q => absurd (show (0 : Nat) = 1 from q) (by decide)
    · split
      · exact fun _ => rfl
      · exact hz j hj
-- what hours leave
def hpV (h : Nat) (r : FdT) : Nat := fHo r + if fOf r = 1 then h else 0
theorem hp_1 {fd : Nat → FdT} {h k n : Nat} (hk : k < n) (c : bitV (oW fd n) k = 1) : smV (fun j => hpV h (fd j)) (k + 1) = smV (fun j => hpV h (fd j)) k + (fHo (fd k) + h) := by
  rw [smV_s]
  show _ + hpV h (fd k) = _
  unfold hpV
  rw [if_pos ((oW_bit hk).mp c)]
theorem hp_0 {fd : Nat → FdT} {h k n : Nat} (hk : k < n) (c : ¬ bitV (oW fd n) k = 1) : smV (fun j => hpV h (fd j)) (k + 1) = smV (fun j => hpV h (fd j)) k + (fHo (fd k) + 0) := by
  rw [smV_s]
  show _ + hpV h (fd k) = _
  unfold hpV
  rw [if_neg (fun q => c ((oW_bit hk).mpr q))]
theorem ps_ho {n h : Nat} {fd : Nat → FdT} (hof : ∀ j, j < n → fOf (fd j) ≤ 1) : smV (fun j => fHo (fdK (fun _ r => fPs h r) fd n j)) n = smV (fun j => hpV h (fd j)) n := smV_cong (fun j hj => by
  show fHo (fdK (fun _ r => fPs h r) fd n j) = hpV h (fd j)
  rw [fdK_lt hj]
  show (if fOf (fd j) = 0 then fHo (fd j) else fHo (fd j) + h) = _
  unfold hpV
  have := hof j hj
  by_cases c : fOf (fd j) = 0
  · rw [if_pos c, if_neg (by omega)]; rfl
  · rw [if_neg c, if_pos (by omega)])
theorem ps_out {n h : Nat} {fd : Nat → FdT} : oW (fdK (fun _ r => fPs h r) fd n) n = oW fd n := bsV_cong (fun j hj => by
  show fOf (fdK (fun _ r => fPs h r) fd n j) = fOf (fd j)
  rw [fdK_lt hj]; rfl)
theorem fTk_ps (h : Nat) (r : FdT) : fTk (fPs h r) ≤ fTk r := by
  show tkV (fMw r) (fOf r) (if fOf r = 0 then fCo r - 20 * h else fCo r) ≤ tkV (fMw r) (fOf r) (fCo r)
  unfold tkV
  by_cases c : fOf r = 0
  · rw [if_pos c, if_pos c, if_pos c]
    exact Nat.div_le_div_right (Nat.mul_le_mul_left _ (by omega))
  · rw [if_neg c, if_neg c]
    exact Nat.le_refl _
theorem ps_load {n h : Nat} {fd : Nat → FdT} : smV (fun j => fTk (fdK (fun _ r => fPs h r) fd n j)) n ≤ smV (fun j => fTk (fd j)) n := smV_le2 (fun j hj => by
  show fTk (fdK (fun _ r => fPs h r) fd n j) ≤ fTk (fd j)
  rw [fdK_lt hj]
  exact fTk_ps h (fd j))
theorem rs_load {n : Nat} {fd : Nat → FdT} : smV (fun j => fTk (fd j)) n ≤ smV (fun j => fRs (fd j)) n := smV_le2 (fun j _ => fTk_le_rs (fd j))
theorem ps_cold {n h now : Nat} {fd : Nat → FdT} (h5 : 5 ≤ h) (hok : ∀ j, j < n → fOk now (fd j)) (hz : fZ n fd) : ∀ j, j < n → fCo (fdK (fun _ r => fPs h r) fd n j) = 0 := by
  intro j hj
  obtain ⟨u1, u2, u3, u4, u5, u6, u7, u8⟩ := hok j hj
  have hz9 := hz j hj
  rw [fdK_lt hj]
  show (if fOf (fd j) = 0 then fCo (fd j) - 20 * h else fCo (fd j)) = 0
  by_cases c : fOf (fd j) = 0
  · rw [if_pos c]; omega
  · rw [if_neg c]; exact hz9 (by omega)
theorem ps_fN {n h : Nat} {fd : Nat → FdT} (hz : fZ n fd) : fN n fd (fdK (fun _ r => fPs h r) fd n) := by
  refine ⟨fun j hj => ?_, fun j hj => ?_⟩
  · rw [fdK_lt hj]; rfl
  · rw [fdK_lt hj]
    intro c
    have c1 : fOf (fd j) = 1 := c
    show (if fOf (fd j) = 0 then fCo (fd j) - 20 * h else fCo (fd j)) = 0
    rw [if_neg (by omega)]
    exact hz j hj c1
theorem fN.cW {n : Nat} {fd g : Nat → FdT} (h : fN n fd g) : cW g n = cW fd n := bsV_cong (fun j hj => h.1 j hj)
theorem fN.tr {n : Nat} {fd g k : Nat → FdT} (h : fN n fd g) (h2 : fN n g k) : fN n fd k := ⟨fun j hj => (h2.1 j hj).trans (h.1 j hj), h2.2⟩
theorem fN.rf {n : Nat} {fd : Nat → FdT} (h : fZ n fd) : fN n fd fd := ⟨fun _ _ => rfl, h⟩
