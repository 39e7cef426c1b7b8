-- the offered feeders, and what a choice is
def frP (r : FdT) : Prop := fOf r = 0 ∧ fCr r = 0
theorem frP_dec (r : FdT) : frP r ∨ ¬ frP r := Classical.em _
def Lst (fd : Nat → FdT) (nu tk hr : Nat → Nat) : Nat → Nat → Prop
  | 0, c => c = 0
  | k + 1, c => if fOf (fd k) = 0 ∧ fCr (fd k) = 0 then ∃ c', c = c' + 1 ∧ nu c' = k ∧ tk c' = fTk (fd k) ∧ hr c' = fHo (fd k) ∧ Lst fd nu tk hr k c' else Lst fd nu tk hr k c
theorem Lst_le {fd : Nat → FdT} {nu tk hr : Nat → Nat} : ∀ {k c : Nat}, Lst fd nu tk hr k c → c ≤ k
  | 0, c, h => by rw [Lst] at h; omega
  | k + 1, c, h => by
    rw [Lst] at h
    split at h
    · obtain ⟨c', rfl, -, -, -, h5⟩ := h
      have := Lst_le h5
      omega
    · have := Lst_le h
      omega
theorem Lst_cong {fd : Nat → FdT} {nu tk hr nu' tk' hr' : Nat → Nat} : ∀ {k c : Nat}, (∀ i, i < c → nu' i = nu i ∧ tk' i = tk i ∧ hr' i = hr i) → Lst fd nu tk hr k c → Lst fd nu' tk' hr' k c
  | 0, c, _, h => h
  | k + 1, c, hi, h => by
    rw [Lst] at h ⊢
    split
    · rw [if_pos (by assumption)] at h
      obtain ⟨c', rfl, h2, h3, h4, h5⟩ := h
      obtain ⟨g1, g2, g3⟩ := hi c' (by omega)
      exact ⟨c', rfl, g1.trans h2, g2.trans h3, g3.trans h4, Lst_cong (fun i hic => hi i (by omega)) h5⟩
    · rw [if_neg (by assumption)] at h
      exact Lst_cong hi h
theorem Lst_skip {fd : Nat → FdT} {nu tk hr : Nat → Nat} {k c : Nat} (hf : ¬ (fOf (fd k) = 0 ∧ fCr (fd k) = 0)) (h : Lst fd nu tk hr k c) : Lst fd nu tk hr (k + 1) c := by
  rw [Lst, if_neg hf]; exact h
theorem Lst_add {fd : Nat → FdT} {nu tk hr : Nat → Nat} {k c : Nat} (hf : fOf (fd k) = 0 ∧ fCr (fd k) = 0) (h : Lst fd nu tk hr k c) : Lst fd (va_up nu c k) (va_up tk c (fTk (fd k))) (va_up hr c (fHo (fd k))) (k + 1) (c + 1) := by
  rw [Lst, if_pos hf]
  exact ⟨c, rfl, va_up_self _ _ _, va_up_self _ _ _, va_up_self _ _ _, Lst_cong (fun i hi => ⟨va_up_ne _ _ (by omega), va_up_ne _ _ (by omega), va_up_ne _ _ (by omega)⟩) h⟩
def frC (fd : Nat → FdT) : Nat → Nat
  | 0 => 0
  | k + 1 => frC fd k + if fOf (fd k) = 0 ∧ fCr (fd k) = 0 then 1 else 0
theorem Lst_cnt {fd : Nat → FdT} {nu tk hr : Nat → Nat} : ∀ {k c : Nat}, Lst fd nu tk hr k c → c = frC fd k
  | 0, c, h => h
  | k + 1, c, h => by
    rw [Lst] at h
    rw [frC]
    split
    · rw [if_pos (by assumption)] at h
      obtain ⟨c', rfl, -, -, -, h5⟩ := h
      rw [Lst_cnt h5]
    · rw [if_neg (by assumption)] at h
      rw [Lst_cnt h]; rfl
theorem Lst_ok {fd : Nat → FdT} {nu tk hr : Nat → Nat} {now : Nat} (hnow : now ≤ 60000) : ∀ {k c : Nat}, k ≤ 12 → (∀ j, j < k → fOk now (fd j)) → Lst fd nu tk hr k c → wkOk nu tk hr c ∧ (∀ i, i < c → nu i < k ∧ 1 ≤ tk i)
  | 0, c, _, _, h => by
    rw [Lst] at h
    subst h
    exact ⟨⟨by decide, fun i hi => absurd hi (Nat.not_lt_zero i), fun i j _ hj => absurd hj (Nat.not_lt_zero j)⟩, fun i hi => absurd hi (Nat.not_lt_zero i)⟩
  | k + 1, c, hk, hf, h => by
    rw [Lst] at h
    split at h
    · rename_i hfr
      obtain ⟨c', rfl, h2, h3, h4, h5⟩ := h
      obtain ⟨⟨g1, g2, g3⟩, g4⟩ := Lst_ok hnow (by omega) (fun j hj => hf j (by omega)) h5
      have hle := Lst_le h5
      have hok := hf k (by omega)
      have ht := fTk_le hok
      have ht1 := fTk_pos hok hfr.1
      have hh : fHo (fd k) ≤ now := hok.2.2.2.2.2.1
      refine ⟨⟨by omega, fun i hi => ?_, fun i j hij hj => ?_⟩, fun i hi => ?_⟩
      · rcases Nat.lt_or_ge i c' with q | q
        · exact g2 i q
        · obtain rfl : i = c' := by omega
          refine ⟨by omega, by omega, by omega⟩
      · rcases Nat.lt_or_ge j c' with q | q
        · exact g3 i j hij q
        · obtain rfl : j = c' := by omega
          rw [h2]
          exact (g4 i hij).1
      · rcases Nat.lt_or_ge i c' with q | q
        · exact ⟨by have := (g4 i q).1; omega, (g4 i q).2⟩
        · obtain rfl : i = c' := by omega
          exact ⟨by omega, by omega⟩
    · obtain ⟨g, g4⟩ := Lst_ok hnow (by omega) (fun j hj => hf j (by omega)) h
      exact ⟨g, fun i hi => ⟨by have := (g4 i hi).1; omega, (g4 i hi).2⟩⟩
theorem smV_cong {f g : Nat → Nat} : ∀ {n : Nat}, (∀ i, i < n → f i = g i) → smV f n = smV g n
  | 0, _ => rfl
  | n + 1, h => by rw [smV, smV, smV_cong (fun i hi => h i (by omega)), h n (by omega)]
theorem prep_g4 {f4 f5 f6 : Nat → Int32} {nu tk hr : Nat → Nat} {c k t h : Nat} (g : ∀ i, i < c → f4 i = nI (2 ^ nu i) ∧ f5 i = nI (tk i) ∧ f6 i = nI (hr i)) : ∀ i, i < c + 1 → upd f4 c (nI (2 ^ k)) i = nI (2 ^ va_up nu c k i) ∧ upd f5 c (nI t) i = nI (va_up tk c t i) ∧ upd f6 c (nI h) i = nI (va_up hr c h i) := by
  intro i hi
  by_cases e : i = c
  · subst e
    rw [pk_us, pk_us, pk_us, va_up_self, va_up_self, va_up_self]
    exact ⟨rfl, rfl, rfl⟩
  · rw [pk_un e, pk_un e, pk_un e, va_up_ne _ _ e, va_up_ne _ _ e, va_up_ne _ _ e]
    exact g i (by omega)
theorem prep_g7 {f7 : Nat → Int32} {tk : Nat → Nat} {c t : Nat} (g : ∀ i, i ≤ c → f7 i = nI (smV tk i)) : ∀ i, i ≤ c + 1 → upd f7 (c + 1) (nI (smV tk c + t)) i = nI (smV (va_up tk c t) i) := by
  intro i hi
  have e0 : smV (va_up tk c t) c = smV tk c := smV_cong (fun j hj => va_up_ne _ _ (by omega))
  by_cases e : i = c + 1
  · subst e
    rw [pk_us, smV, e0, va_up_self]
  · rw [pk_un e, g i (by omega), show smV (va_up tk c t) i = smV tk i from smV_cong (fun j hj => va_up_ne _ _ (by omega))]
-- sets, their sums
def sT (fd : Nat → FdT) (s : Nat) : Nat → Nat
  | 0 => 0
  | k + 1 => sT fd s k + if bitV s k = 1 then fTk (fd k) else 0
def sH (fd : Nat → FdT) (s : Nat) : Nat → Nat
  | 0 => 0
  | k + 1 => sH fd s k + if bitV s k = 1 then fHo (fd k) else 0
def sF (fd : Nat → FdT) (s : Nat) (k : Nat) : Prop := ∀ j, j < k → bitV s j = 1 → fOf (fd j) = 0 ∧ fCr (fd j) = 0
def cand (n : Nat) (fd : Nat → FdT) (sf s : Nat) : Prop := s < 2 ^ n ∧ sF fd s n ∧ sf ≤ sT fd s n
def kyS (n : Nat) (fd : Nat → FdT) (nl s : Nat) : Nat := keyV nl (sT fd s n) (sH fd s n) s
def isB (n : Nat) (fd : Nat → FdT) (sl sf b : Nat) : Prop := (b = 0 ∧ ∀ s, ¬ cand n fd sf s) ∨ (cand n fd sf b ∧ ∀ s, cand n fd sf s → kyS n fd (sf + sl) b ≤ kyS n fd (sf + sl) s)
theorem bitV_add {a k : Nat} (h : a < 2 ^ k) : bitV (a + 2 ^ k) k = 1 ∧ ∀ j, j < k → bitV (a + 2 ^ k) j = bitV a j := by
  have hp : 0 < 2 ^ k := Nat.pow_pos (by decide)
  refine ⟨?_, fun j hj => ?_⟩
  · unfold bitV
    rw [Nat.add_div_right _ hp, Nat.div_eq_of_lt h]
  · unfold bitV
    have e : (2 : Nat) ^ k = 2 ^ j * (2 * 2 ^ (k - j - 1)) := by
      rw [← Nat.pow_succ', ← Nat.pow_add, show j + (k - j - 1).succ = k by omega]
    rw [e, Nat.add_mul_div_left _ _ (Nat.pow_pos (by decide)), Nat.add_mul_mod_self_left]
theorem bitV_hi {a k : Nat} (h : a < 2 ^ k) : bitV a k = 0 := by
  unfold bitV; rw [Nat.div_eq_of_lt h]
theorem sS_cong {fd : Nat → FdT} {a b : Nat} : ∀ {k : Nat}, (∀ j, j < k → bitV a j = bitV b j) → sT fd a k = sT fd b k ∧ sH fd a k = sH fd b k ∧ (sF fd a k ↔ sF fd b k)
  | 0, _ => ⟨rfl, rfl, ⟨fun _ j hj => absurd hj (Nat.not_lt_zero j), fun _ j hj => absurd hj (Nat.not_lt_zero j)⟩⟩
  | k + 1, h => by
    obtain ⟨h1, h2, -⟩ := sS_cong (k := k) (fd := fd) (fun j hj => h j (by omega))
    refine ⟨by rw [sT, sT, h1, h k (by omega)], by rw [sH, sH, h2, h k (by omega)], fun g j hj hb => g j hj (by rw [h j hj]; exact hb), fun g j hj hb => g j hj (by rw [← h j hj]; exact hb)⟩
-- the sums that o of the offered give
def Rc (nu tk hr : Nat → Nat) : Nat → Tri → Prop
  | 0, z => z = (0, 0, 0)
  | o + 1, z => Rc nu tk hr o z ∨ ∃ z' : Tri, Rc nu tk hr o z' ∧ z = adV (elV nu tk hr o) z'
theorem Rc_0 {nu tk hr : Nat → Nat} : ∀ o, Rc nu tk hr o (0, 0, 0)
  | 0 => rfl
  | o + 1 => Or.inl (Rc_0 o)
theorem adV_0 (x : Tri) : adV x (0, 0, 0) = x := rfl
theorem adV_c (x y : Tri) : adV x y = adV y x := by unfold adV; rw [Nat.add_comm x.1, Nat.add_comm x.2.1, Nat.add_comm x.2.2]
theorem adV_a (x y z : Tri) : adV x (adV y z) = adV (adV x y) z := by
  show (x.1 + (y.1 + z.1), x.2.1 + (y.2.1 + z.2.1), x.2.2 + (y.2.2 + z.2.2)) = ((x.1 + y.1) + z.1, (x.2.1 + y.2.1) + z.2.1, (x.2.2 + y.2.2) + z.2.2)
  rw [Nat.add_assoc, Nat.add_assoc, Nat.add_assoc]
theorem Rc_sm {nu tk hr : Nat → Nat} : ∀ {o : Nat} {z : Tri}, Rc nu tk hr o z → z.2.1 ≤ smV tk o
  | 0, z, h => by
    rw [Rc] at h; subst h; exact Nat.le_refl _
  | o + 1, z, h => by
    rw [Rc] at h
    rw [smV]
    rcases h with h | ⟨z', h, rfl⟩
    · have := Rc_sm h; omega
    · have := Rc_sm h
      show tk o + z'.2.1 ≤ _
      omega
abbrev kyT (nl : Nat) (x : Tri) : Nat := keyV nl x.2.1 x.2.2 x.1
theorem kyT_mono {nl : Nat} {x z : Tri} (h : bdV x) : kyT nl x ≤ kyT nl (adV x z) := by
  obtain ⟨h1, h2, h3⟩ := h
  show keyV nl x.2.1 x.2.2 x.1 ≤ keyV nl (x.2.1 + z.2.1) (x.2.2 + z.2.2) (x.1 + z.1)
  unfold keyV
  split <;> split <;> omega
theorem wg_all {nl : Nat} {x b : Tri} (hx : x.1 ≠ 0) : (wgV nl x b = b ∨ wgV nl x b = x) ∧ (wgV nl x b).1 ≠ 0 ∧ kyT nl (wgV nl x b) ≤ kyT nl x ∧ (b.1 ≠ 0 → kyT nl (wgV nl x b) ≤ kyT nl b) := by
  unfold wgV
  split
  · rename_i c
    refine ⟨Or.inr rfl, hx, Nat.le_refl _, fun hb => ?_⟩
    rcases c with c | c
    · exact absurd c hb
    · exact Nat.le_of_lt c
  · rename_i c
    refine ⟨Or.inl rfl, fun e => c (Or.inl e), ?_, fun _ => Nat.le_refl _⟩
    exact Nat.not_lt.mp (fun e => c (Or.inr e))
theorem wk_all {nl sf : Nat} {nu tk hr : Nat → Nat} {cnt : Nat} (hk : wkOk nu tk hr cnt) (h1 : 1 ≤ sf) : ∀ (o : Nat) (x b : Tri), o ≤ cnt → xOk nu o x → (x.1 = 0 → x.2.1 = 0) →
    (wkV nl sf nu tk hr o x b = b ∨ ∃ z, Rc nu tk hr o z ∧ wkV nl sf nu tk hr o x b = adV x z ∧ sf ≤ (adV x z).2.1) ∧ (b.1 ≠ 0 → (wkV nl sf nu tk hr o x b).1 ≠ 0 ∧ kyT nl (wkV nl sf nu tk hr o x b) ≤ kyT nl b) ∧
    (∀ z, Rc nu tk hr o z → sf ≤ (adV x z).2.1 → (wkV nl sf nu tk hr o x b).1 ≠ 0 ∧ kyT nl (wkV nl sf nu tk hr o x b) ≤ kyT nl (adV x z)) := by
  intro o
  induction o with
  | zero =>
    intro x b _ hx hz
    by_cases c : sf ≤ x.2.1
    · rw [wkV_meet c]
      obtain ⟨g1, g2, g3, g4⟩ := wg_all (nl := nl) (x := x) (b := b) (fun e => absurd (hz e) (by omega))
      refine ⟨?_, fun hb => ⟨g2, g4 hb⟩, fun z _ _ => ⟨g2, Nat.le_trans g3 (kyT_mono hx.bd)⟩⟩
      rcases g1 with g1 | g1
      · exact Or.inl g1
      · exact Or.inr ⟨(0, 0, 0), Rc_0 _, g1, c⟩
    · rw [wkV_cut c (Or.inl rfl)]
      refine ⟨Or.inl rfl, fun hb => ⟨hb, Nat.le_refl _⟩, fun z hz9 hs => ?_⟩
      rw [Rc] at hz9; subst hz9
      exact absurd hs c
  | succ o ih =>
    intro x b ho hx hz
    by_cases c : sf ≤ x.2.1
    · rw [wkV_meet c]
      obtain ⟨g1, g2, g3, g4⟩ := wg_all (nl := nl) (x := x) (b := b) (fun e => absurd (hz e) (by omega))
      refine ⟨?_, fun hb => ⟨g2, g4 hb⟩, fun z _ _ => ⟨g2, Nat.le_trans g3 (kyT_mono hx.bd)⟩⟩
      rcases g1 with g1 | g1
      · exact Or.inl g1
      · exact Or.inr ⟨(0, 0, 0), Rc_0 _, g1, c⟩
    · by_cases d : x.2.1 + smV tk (o + 1) < sf
      · rw [wkV_cut c (Or.inr d)]
        refine ⟨Or.inl rfl, fun hb => ⟨hb, Nat.le_refl _⟩, fun z hz9 hs => ?_⟩
        have := Rc_sm hz9
        have hs' : sf ≤ x.2.1 + z.2.1 := hs
        omega
      · rw [show wkV nl sf nu tk hr (o + 1) x b = wkV nl sf nu tk hr o (adV x (elV nu tk hr o)) (wkV nl sf nu tk hr o x b) from wkV_go c (Nat.succ_pos o) d]
        obtain ⟨a1, a2, a3⟩ := ih x b (by omega) hx.stay hz
        have hgo : xOk nu o (adV x (elV nu tk hr o)) := xOk.go (o := o + 1) hk (Nat.succ_pos o) ho hx
        obtain ⟨b1, b2, b3⟩ := ih (adV x (elV nu tk hr o)) (wkV nl sf nu tk hr o x b) (by omega) hgo (fun e => by
          have e' : x.1 + 2 ^ nu o = 0 := e
          have : 0 < 2 ^ nu o := Nat.pow_pos (by decide)
          omega)
        refine ⟨?_, fun hb => ?_, fun z hz9 hs => ?_⟩
        · rcases b1 with b1 | ⟨z, q1, q2, q3⟩
          · rcases a1 with a1 | ⟨z, q1, q2, q3⟩
            · exact Or.inl (b1.trans a1)
            · exact Or.inr ⟨z, Or.inl q1, b1.trans q2, q3⟩
          · rw [← adV_a] at q2 q3
            exact Or.inr ⟨_, Or.inr ⟨z, q1, rfl⟩, q2, q3⟩
        · obtain ⟨q1, q2⟩ := a2 hb
          obtain ⟨q3, q4⟩ := b2 q1
          exact ⟨q3, Nat.le_trans q4 q2⟩
        · rw [Rc] at hz9
          rcases hz9 with hz9 | ⟨z', hz9, rfl⟩
          · obtain ⟨q1, q2⟩ := a3 z hz9 hs
            obtain ⟨q3, q4⟩ := b2 q1
            exact ⟨q3, Nat.le_trans q4 q2⟩
          · rw [adV_a] at hs ⊢
            exact b3 z' hz9 hs
-- the sums and the sets
def Vs (fd : Nat → FdT) (k : Nat) (z : Tri) : Prop := z.1 < 2 ^ k ∧ sF fd z.1 k ∧ z.2.1 = sT fd z.1 k ∧ z.2.2 = sH fd z.1 k
theorem Vs_up0 {fd : Nat → FdT} {k : Nat} {z : Tri} (h : Vs fd k z) : Vs fd (k + 1) z := by
  obtain ⟨h1, h2, h3, h4⟩ := h
  have hb := bitV_hi h1
  refine ⟨by rw [Nat.pow_succ]; omega, fun j hj hb1 => ?_, by rw [sT, hb]; exact h3, by rw [sH, hb]; exact h4⟩
  rcases Nat.lt_or_ge j k with c | c
  · exact h2 j c hb1
  · obtain rfl : j = k := by omega
    rw [hb] at hb1; exact absurd hb1 (by decide)
theorem Vs_up1 {fd : Nat → FdT} {k : Nat} {z : Tri} (hf : fOf (fd k) = 0 ∧ fCr (fd k) = 0) (h : Vs fd k z) : Vs fd (k + 1) (adV (2 ^ k, fTk (fd k), fHo (fd k)) z) := by
  obtain ⟨h1, h2, h3, h4⟩ := h
  obtain ⟨b1, b2⟩ := bitV_add h1
  obtain ⟨g1, g2, g3⟩ := sS_cong (fd := fd) b2
  rw [Nat.add_comm] at b1 g1 g2 g3
  refine ⟨by show 2 ^ k + z.1 < 2 ^ (k + 1); rw [Nat.pow_succ]; omega, fun j hj hb1 => ?_, ?_, ?_⟩
  · rcases Nat.lt_or_ge j k with c | c
    · exact g3.mpr h2 j c hb1
    · obtain rfl : j = k := by omega
      exact hf
  · show fTk (fd k) + z.2.1 = sT fd (2 ^ k + z.1) (k + 1)
    rw [sT, b1, g1, h3, if_pos rfl, Nat.add_comm]
  · show fHo (fd k) + z.2.2 = sH fd (2 ^ k + z.1) (k + 1)
    rw [sH, b1, g2, h4, if_pos rfl, Nat.add_comm]
theorem bitV_mid {a k : Nat} (h : a < 2 ^ (k + 1)) (h2 : 2 ^ k ≤ a) : bitV a k = 1 := by
  have := (bitV_add (a := a - 2 ^ k) (k := k) (by rw [Nat.pow_succ] at h; omega)).1
  rw [Nat.sub_add_cancel h2] at this; exact this
theorem Vs_dn0 {fd : Nat → FdT} {k : Nat} {z : Tri} (h : Vs fd (k + 1) z) (h2 : z.1 < 2 ^ k) : Vs fd k z := by
  obtain ⟨g1, g2, g3, g4⟩ := h
  have hb := bitV_hi h2
  rw [sT, hb] at g3; rw [sH, hb] at g4
  exact ⟨h2, fun j hj => g2 j (by omega), g3, g4⟩
theorem Vs_dn1 {fd : Nat → FdT} {k : Nat} {z : Tri} (h : Vs fd (k + 1) z) (h2 : 2 ^ k ≤ z.1) : (fOf (fd k) = 0 ∧ fCr (fd k) = 0) ∧ ∃ z', Vs fd k z' ∧ z = adV (2 ^ k, fTk (fd k), fHo (fd k)) z' := by
  obtain ⟨g1, g2, g3, g4⟩ := h
  have hm := bitV_mid g1 h2
  have hl : z.1 - 2 ^ k < 2 ^ k := by rw [Nat.pow_succ] at g1; omega
  obtain ⟨b1, b2⟩ := bitV_add hl
  rw [Nat.sub_add_cancel h2] at b1 b2
  obtain ⟨q1, q2, q3⟩ := sS_cong (fd := fd) b2
  rw [sT, hm, if_pos rfl, q1] at g3; rw [sH, hm, if_pos rfl, q2] at g4
  refine ⟨g2 k (Nat.lt_succ_self k) hm, (z.1 - 2 ^ k, sT fd (z.1 - 2 ^ k) k, sH fd (z.1 - 2 ^ k) k), ⟨hl, q3.mp (fun j hj => g2 j (by omega)), rfl, rfl⟩, ?_⟩
  show z = (2 ^ k + (z.1 - 2 ^ k), fTk (fd k) + sT fd (z.1 - 2 ^ k) k, fHo (fd k) + sH fd (z.1 - 2 ^ k) k)
  rw [Nat.add_comm (fTk (fd k)), Nat.add_comm (fHo (fd k)), ← g3, ← g4, show 2 ^ k + (z.1 - 2 ^ k) = z.1 by omega]
theorem Rc_Vs {fd : Nat → FdT} {nu tk hr : Nat → Nat} : ∀ {k c : Nat}, Lst fd nu tk hr k c → ∀ z, Rc nu tk hr c z ↔ Vs fd k z
  | 0, c, h, z => by
    rw [Lst] at h; subst h
    rw [Rc]
    constructor
    · rintro rfl
      exact ⟨Nat.one_pos, fun j hj => absurd hj (Nat.not_lt_zero j), rfl, rfl⟩
    · obtain ⟨z1, z2, z3⟩ := z
      rintro ⟨h1, -, h3, h4⟩
      have e1 : z1 = 0 := by
        have : z1 < 1 := h1
        omega
      have e2 : z2 = 0 := h3
      have e3 : z3 = 0 := h4
      subst e1 e2 e3
      rfl
  | k + 1, c, h, z => by
    rw [Lst] at h
    split at h
    · rename_i hf
      obtain ⟨c', rfl, e1, e2, e3, h5⟩ := h
      have ih := Rc_Vs h5
      have hel : elV nu tk hr c' = (2 ^ k, fTk (fd k), fHo (fd k)) := by unfold elV; rw [e1, e2, e3]
      rw [Rc, hel]
      constructor
      · rintro (g | ⟨z', g, rfl⟩)
        · exact Vs_up0 ((ih z).mp g)
        · exact Vs_up1 hf ((ih z').mp g)
      · intro g
        rcases Nat.lt_or_ge z.1 (2 ^ k) with d | d
        · exact Or.inl ((ih z).mpr (Vs_dn0 g d))
        · obtain ⟨-, z', g1, g2⟩ := Vs_dn1 g d
          exact Or.inr ⟨z', (ih z').mpr g1, g2⟩
    · rename_i hf
      have ih := Rc_Vs h z
      rw [ih]
      constructor
      · exact Vs_up0
      · intro g
        rcases Nat.lt_or_ge z.1 (2 ^ k) with d | d
        · exact Vs_dn0 g d
        · exact absurd (Vs_dn1 g d).1 hf
theorem isB_of {n : Nat} {fd : Nat → FdT} {sl sf : Nat} {r : Tri} (hA : r.1 = 0 ∨ (Vs fd n r ∧ sf ≤ r.2.1)) (hC : ∀ z, Vs fd n z → sf ≤ z.2.1 → r.1 ≠ 0 ∧ kyT (sf + sl) r ≤ kyT (sf + sl) z) : isB n fd sl sf r.1 := by
  by_cases e : r.1 = 0
  · refine Or.inl ⟨e, fun s hs => ?_⟩
    exact (hC (s, sT fd s n, sH fd s n) ⟨hs.1, hs.2.1, rfl, rfl⟩ hs.2.2).1 e
  · rcases hA with hA | ⟨⟨g1, g2, g3, g4⟩, g5⟩
    · exact absurd hA e
    · refine Or.inr ⟨⟨g1, g2, by rw [← g3]; exact g5⟩, fun s hs => ?_⟩
      have := (hC (s, sT fd s n, sH fd s n) ⟨hs.1, hs.2.1, rfl, rfl⟩ hs.2.2).2
      unfold kyS
      rw [← g3, ← g4]
      exact this
theorem trV_cong {nu tk hr : Nat → Nat} {a b : Nat} : ∀ {i : Nat}, (∀ j, j < i → bitV a j = bitV b j) → trV nu tk hr a i = trV nu tk hr b i
  | 0, _ => rfl
  | i + 1, h => by rw [trV, trV, trV_cong (fun j hj => h j (by omega)), h i (by omega)]
theorem trV_Rc {nu tk hr : Nat → Nat} (c : Nat) : ∀ i, Rc nu tk hr i (trV nu tk hr c i)
  | 0 => rfl
  | i + 1 => by
    rw [trV, Rc]
    split
    · exact Or.inr ⟨_, trV_Rc c i, adV_c _ _⟩
    · exact Or.inl (trV_Rc c i)
theorem Rc_trV {nu tk hr : Nat → Nat} : ∀ {i : Nat} {z : Tri}, Rc nu tk hr i z → ∃ c, c < 2 ^ i ∧ z = trV nu tk hr c i
  | 0, z, h => ⟨0, Nat.one_pos, h⟩
  | i + 1, z, h => by
    rw [Rc] at h
    rcases h with h | ⟨z', h, rfl⟩
    · obtain ⟨c, h1, rfl⟩ := Rc_trV h
      refine ⟨c, by rw [Nat.pow_succ]; omega, ?_⟩
      rw [trV, bitV_hi h1]; rfl
    · obtain ⟨c, h1, rfl⟩ := Rc_trV h
      obtain ⟨b1, b2⟩ := bitV_add h1
      refine ⟨c + 2 ^ i, by rw [Nat.pow_succ]; omega, ?_⟩
      rw [trV, b1, if_pos rfl, trV_cong b2, adV_c]
theorem trV_0 {nu tk hr : Nat → Nat} : ∀ i, trV nu tk hr 0 i = (0, 0, 0)
  | 0 => rfl
  | i + 1 => by
    rw [trV, trV_0 i, show bitV 0 i = 0 by unfold bitV; rw [Nat.zero_div]]; rfl
theorem Rc_z {nu tk hr : Nat → Nat} : ∀ {o : Nat} {z : Tri}, Rc nu tk hr o z → z.1 = 0 → z.2.1 = 0
  | 0, z, h, _ => by rw [Rc] at h; subst h; rfl
  | o + 1, z, h, e => by
    rw [Rc] at h
    rcases h with h | ⟨z', h, rfl⟩
    · exact Rc_z h e
    · have e' : 2 ^ nu o + z'.1 = 0 := e
      have : 0 < 2 ^ nu o := Nat.pow_pos (by decide)
      omega
theorem bl_all {nl sf : Nat} {nu tk hr : Nat → Nat} {cnt : Nat} {b : Tri} (h1 : 1 ≤ sf) : ∀ j : Nat,
    (blV nl sf nu tk hr cnt b j = b ∨ (Rc nu tk hr cnt (blV nl sf nu tk hr cnt b j) ∧ sf ≤ (blV nl sf nu tk hr cnt b j).2.1)) ∧
    (∀ c, 1 ≤ c → c ≤ j → sf ≤ (trV nu tk hr c cnt).2.1 → (blV nl sf nu tk hr cnt b j).1 ≠ 0 ∧ kyT nl (blV nl sf nu tk hr cnt b j) ≤ kyT nl (trV nu tk hr c cnt))
  | 0 => ⟨Or.inl rfl, fun c q1 q2 => by omega⟩
  | j + 1 => by
    obtain ⟨a1, a2⟩ := bl_all (nl := nl) (nu := nu) (tk := tk) (hr := hr) (cnt := cnt) (b := b) h1 j
    rw [blV]
    unfold lsV
    by_cases c : sf ≤ (trV nu tk hr (j + 1) cnt).2.1
    · rw [if_pos c]
      have hR := trV_Rc (nu := nu) (tk := tk) (hr := hr) (j + 1) cnt
      obtain ⟨g1, g2, g3, g4⟩ := wg_all (nl := nl) (x := trV nu tk hr (j + 1) cnt) (b := blV nl sf nu tk hr cnt b j) (fun e => absurd (Rc_z hR e) (by omega))
      refine ⟨?_, fun c9 q1 q2 q3 => ⟨g2, ?_⟩⟩
      · rcases g1 with g1 | g1
        · rw [g1]; exact a1
        · rw [g1]; exact Or.inr ⟨hR, c⟩
      · rcases Nat.lt_or_ge c9 (j + 1) with d | d
        · obtain ⟨p1, p2⟩ := a2 c9 q1 (by omega) q3
          exact Nat.le_trans (g4 p1) p2
        · obtain rfl : c9 = j + 1 := by omega
          exact g3
    · rw [if_neg c]
      refine ⟨a1, fun c9 q1 q2 q3 => ?_⟩
      rcases Nat.lt_or_ge c9 (j + 1) with d | d
      · exact a2 c9 q1 (by omega) q3
      · obtain rfl : c9 = j + 1 := by omega
        exact absurd q3 c
theorem best_walk {n now : Nat} {fd : Nat → FdT} {nu tk hr : Nat → Nat} {cnt sl sf bt bh : Nat} (hn : n ≤ 12) (hnow : now ≤ 60000) (hf : ∀ j, j < n → fOk now (fd j)) (hl : Lst fd nu tk hr n cnt) (h1 : 1 ≤ sf) (h2 : sf + sl < 1048576) : isB n fd sl sf (wkV (sf + sl) sf nu tk hr cnt (0, 0, 0) (0, bt, bh)).1 ∧ (wkV (sf + sl) sf nu tk hr cnt (0, 0, 0) (0, bt, bh)).1 < 4096 := by
  have hk := (Lst_ok hnow hn hf hl).1
  obtain ⟨a1, -, a3⟩ := wk_all (nl := sf + sl) hk h1 cnt (0, 0, 0) (0, bt, bh) (Nat.le_refl _) (xOk0 _ _ hk.1) (fun _ => rfl)
  have hz : ∀ z : Tri, adV (0, 0, 0) z = z := fun z => (adV_c _ _).trans (adV_0 z)
  have hb : (wkV (sf + sl) sf nu tk hr cnt (0, 0, 0) (0, bt, bh)).1 = 0 ∨ (Vs fd n (wkV (sf + sl) sf nu tk hr cnt (0, 0, 0) (0, bt, bh)) ∧ sf ≤ (wkV (sf + sl) sf nu tk hr cnt (0, 0, 0) (0, bt, bh)).2.1) := by
    rcases a1 with a1 | ⟨z, q1, q2, q3⟩
    · rw [a1]; exact Or.inl rfl
    · rw [q2]; rw [hz] at q3 ⊢; exact Or.inr ⟨(Rc_Vs hl z).mp q1, q3⟩
  refine ⟨isB_of hb (fun z hv hs => ?_), ?_⟩
  · have := a3 z ((Rc_Vs hl z).mpr hv) (by rw [hz]; exact hs)
    rw [hz] at this; exact this
  · rcases hb with hb | hb
    · rw [hb]; decide
    · have : 2 ^ n ≤ 2 ^ 12 := Nat.pow_le_pow_right (by decide) hn
      exact Nat.lt_of_lt_of_le hb.1.1 this
theorem best_list {n now : Nat} {fd : Nat → FdT} {nu tk hr : Nat → Nat} {cnt sl sf bt bh : Nat} (hn : n ≤ 12) (hnow : now ≤ 60000) (hf : ∀ j, j < n → fOk now (fd j)) (hl : Lst fd nu tk hr n cnt) (h1 : 1 ≤ sf) (h2 : sf + sl < 1048576) : isB n fd sl sf (blV (sf + sl) sf nu tk hr cnt (0, bt, bh) (2 ^ cnt - 1)).1 := by
  have hk := (Lst_ok hnow hn hf hl).1
  obtain ⟨a1, a3⟩ := bl_all (nl := sf + sl) (nu := nu) (tk := tk) (hr := hr) (cnt := cnt) (b := (0, bt, bh)) h1 (2 ^ cnt - 1)
  refine isB_of ?_ (fun z hv hs => ?_)
  · rcases a1 with a1 | ⟨a1, a2⟩
    · rw [a1]; exact Or.inl rfl
    · exact Or.inr ⟨(Rc_Vs hl _).mp a1, a2⟩
  · obtain ⟨c, q1, rfl⟩ := Rc_trV ((Rc_Vs hl z).mpr hv)
    have q2 : c ≠ 0 := fun e => by
      subst e; rw [trV_0] at hs
      have : sf ≤ 0 := hs
      omega
    exact a3 c (by omega) (by omega) hs
