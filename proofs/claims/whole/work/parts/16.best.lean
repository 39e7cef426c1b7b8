-- the offered feeders, and what a choice is
def frP (r : FdT) : Prop := fOf r = 0 ∧ fCr r = 0
theorem frP_dec (r : FdT) : frP r ∨ ¬ frP r := Classical.em _
def Lst (fd : Nat → FdT) (nu tk hr : Nat → Nat) : Nat → Nat → Prop
  | 0, c => c = 0
  | k + 1, c => if fOf (fd k) = 0 ∧ fCr (fd k) = 0 then ∃ c', c = c' + 1 ∧ nu c' = k ∧ tk c' = fTk (fd k) ∧ hr c' = fHo (fd k) ∧ Lst fd nu tk hr k c' else Lst fd nu tk hr k c
theorem Lst_le {fd : Nat → FdT} {nu tk hr : Nat → Nat} : ∀ {k c : Nat}, Lst fd nu tk hr k c → c ≤ k
  | 0, c, h => by rw [Lst] at h; omega
  | k + 1, c, h => by
    rw [Lst] at h
    split at h
    · obtain ⟨c', rfl, -, -, -, h5⟩ := h
      have := Lst_le h5
      omega
    · have := Lst_le h
      omega
theorem Lst_cong {fd : Nat → FdT} {nu tk hr nu' tk' hr' : Nat → Nat} : ∀ {k c : Nat}, (∀ i, i < c → nu' i = nu i ∧ tk' i = tk i ∧ hr' i = hr i) → Lst fd nu tk hr k c → Lst fd nu' tk' hr' k c
  | 0, c, _, h => h
  | k + 1, c, hi, h => by
    rw [Lst] at h ⊢
    split
    · rw [if_pos (by assumption)] at h
      obtain ⟨c', rfl, h2, h3, h4, h5⟩ := h
      obtain ⟨g1, g2, g3⟩ := hi c' (by omega)
      exact ⟨c', rfl, g1.trans h2, g2.trans h3, g3.trans h4, Lst_cong (fun i hic => hi i (by omega)) h5⟩
    · rw [if_neg (by assumption)] at h
      exact Lst_cong hi h
theorem Lst_skip {fd : Nat → FdT} {nu tk hr : Nat → Nat} {k c : Nat} (hf : ¬ (fOf (fd k) = 0 ∧ fCr (fd k) = 0)) (h : Lst fd nu tk hr k c) : Lst fd nu tk hr (k + 1) c := by
  rw [Lst, if_neg hf]; exact h
theorem Lst_add {fd : Nat → FdT} {nu tk hr : Nat → Nat} {k c : Nat} (hf : fOf (fd k) = 0 ∧ fCr (fd k) = 0) (h : Lst fd nu tk hr k c) : Lst fd (va_up nu c k) (va_up tk c (fTk (fd k))) (va_up hr c (fHo (fd k))) (k + 1) (c + 1) := by
  rw [Lst, if_pos hf]
  exact ⟨c, rfl, va_up_self _ _ _, va_up_self _ _ _, va_up_self _ _ _, Lst_cong (fun i hi => ⟨va_up_ne _ _ (by omega), va_up_ne _ _ (by omega), va_up_ne _ _ (by omega)⟩) h⟩
def frC (fd : Nat → FdT) : Nat → Nat
  | 0 => 0
  | k + 1 => frC fd k + if fOf (fd k) = 0 ∧ fCr (fd k) = 0 then 1 else 0
theorem Lst_cnt {fd : Nat → FdT} {nu tk hr : Nat → Nat} : ∀ {k c : Nat}, Lst fd nu tk hr k c → c = frC fd k
  | 0, c, h => h
  | k + 1, c, h => by
    rw [Lst] at h
    rw [frC]
    split
    · rw [if_pos (by assumption)] at h
      obtain ⟨c', rfl, -, -, -, h5⟩ := h
      rw [Lst_cnt h5]
    · rw [if_neg (by assumption)] at h
      rw [Lst_cnt h]; rfl
theorem Lst_ok {fd : Nat → FdT} {nu tk hr : Nat → Nat} {now : Nat} (hnow : now ≤ 60000) : ∀ {k c : Nat}, k ≤ 12 → (∀ j, j < k → fOk now (fd j)) → Lst fd nu tk hr k c → wkOk nu tk hr c ∧ (∀ i, i < c → nu i < k ∧ 1 ≤ tk i)
  | 0, c, _, _, h => by
    rw [Lst] at h
    subst h
    exact ⟨⟨by decide, fun i hi => absurd hi (Nat.not_lt_zero i), fun i j _ hj => absurd hj (Nat.not_lt_zero j)⟩, fun i hi => absurd hi (Nat.not_lt_zero i)⟩
  | k + 1, c, hk, hf, h => by
    rw [Lst] at h
    split at h
    · rename_i hfr
      obtain ⟨c', rfl, h2, h3, h4, h5⟩ := h
      obtain ⟨⟨g1, g2, g3⟩, g4⟩ := Lst_ok hnow (by omega) (fun j hj => hf j (by omega)) h5
      have hle := Lst_le h5
      have hok := hf k (by omega)
      have ht := fTk_le hok
      have ht1 := fTk_pos hok hfr.1
      have hh : fHo (fd k) ≤ now := hok.2.2.2.2.2.1
      refine ⟨⟨by omega, fun i hi => ?_, fun i j hij hj => ?_⟩, fun i hi => ?_⟩
      · rcases Nat.lt_or_ge i c' with q | q
        · exact g2 i q
        · obtain rfl : i = c' := by omega
          refine ⟨by omega, by omega, by omega⟩
      · rcases Nat.lt_or_ge j c' with q | q
        · exact g3 i j hij q
        · obtain rfl : j = c' := by omega
          rw [h2]
          exact (g4 i hij).1
      · rcases Nat.lt_or_ge i c' with q | q
        · exact ⟨by have := (g4 i q).1; omega, (g4 i q).2⟩
        · obtain rfl : i = c' := by omega
          exact ⟨by omega, by omega⟩
    · obtain ⟨g, g4⟩ := Lst_ok hnow (by omega) (fun j hj => hf j (by omega)) h
      exact ⟨g, fun i hi => ⟨by have := (g4 i hi).1; omega, (g4 i hi).2⟩⟩
theorem smV_cong {f g : Nat → Nat} : ∀ {n : Nat}, (∀ i, i < n → f i = g i) → smV f n = smV g n
  | 0, _ => rfl
  | n + 1, h => by rw [smV, smV, smV_cong (fun i hi => h i (by omega)), h n (by omega)]
theorem prep_g4 {f4 f5 f6 : Nat → Int32} {nu tk hr : Nat → Nat} {c k t h : Nat} (g : ∀ i, i < c → f4 i = nI (2 ^ nu i) ∧ f5 i = nI (tk i) ∧ f6 i = nI (hr i)) : ∀ i, i < c + 1 → upd f4 c (nI (2 ^ k)) i = nI (2 ^ va_up nu c k i) ∧ upd f5 c (nI t) i = nI (va_up tk c t i) ∧ upd f6 c (nI h) i = nI (va_up hr c h i) := by
  intro i hi
  by_cases e : i = c
  · subst e
    rw [pk_us, pk_us, pk_us, va_up_self, va_up_self, va_up_self]
    exact ⟨rfl, rfl, rfl⟩
  · rw [pk_un e, pk_un e, pk_un e, va_up_ne _ _ e, va_up_ne _ _ e, va_up_ne _ _ e]
    exact g i (by omega)
theorem prep_g7 {f7 : Nat → Int32} {tk : Nat → Nat} {c t : Nat} (g : ∀ i, i ≤ c → f7 i = nI (smV tk i)) : ∀ i, i ≤ c + 1 → upd f7 (c + 1) (nI (smV tk c + t)) i = nI (smV (va_up tk c t) i) := by
  intro i hi
  have e0 : smV (va_up tk c t) c = smV tk c := smV_cong (fun j hj => va_up_ne _ _ (by omega))
  by_cases e : i = c + 1
  · subst e
    rw [pk_us, smV, e0, va_up_self]
  · rw [pk_un e, g i (by omega), show smV (va_up tk c t) i = smV tk i from smV_cong (fun j hj => va_up_ne _ _ (by omega))]
-- sets, their sums
def sT (fd : Nat → FdT) (s : Nat) : Nat → Nat
  | 0 => 0
  | k + 1 => sT fd s k + if bitV s k = 1 then fTk (fd k) else 0
def sH (fd : Nat → FdT) (s : Nat) : Nat → Nat
  | 0 => 0
  | k + 1 => sH fd s k + if bitV s k = 1 then fHo (fd k) else 0
def sF (fd : Nat → FdT) (s : Nat) (k : Nat) : Prop := ∀ j, j < k → bitV s j = 1 → fOf (fd j) = 0 ∧ fCr (fd j) = 0
def cand (n : Nat) (fd : Nat → FdT) (sf s : Nat) : Prop := s < 2 ^ n ∧ sF fd s n ∧ sf ≤ sT fd s n
def kyS (n : Nat) (fd : Nat → FdT) (nl s : Nat) : Nat := keyV nl (sT fd s n) (sH fd s n) s
def isB (n : Nat) (fd : Nat → FdT) (sl sf b : Nat) : Prop := (b = 0 ∧ ∀ s, ¬ cand n fd sf s) ∨ (cand n fd sf b ∧ ∀ s, cand n fd sf s → kyS n fd (sf + sl) b ≤ kyS n fd (sf + sl) s)
theorem best_walk {n now : Nat} {fd : Nat → FdT} {nu tk hr : Nat → Nat} {cnt sl sf bt bh : Nat} (hn : n ≤ 12) (hnow : now ≤ 60000) (hf : ∀ j, j < n → fOk now (fd j)) (hl : Lst fd nu tk hr n cnt) (h1 : 1 ≤ sf) (h2 : sf + sl < 1048576) : isB n fd sl sf (wkV (sf + sl) sf nu tk hr cnt (0, 0, 0) (0, bt, bh)).1 ∧ (wkV (sf + sl) sf nu tk hr cnt (0, 0, 0) (0, bt, bh)).1 < 4096 := by
  sorry
theorem best_list {n now : Nat} {fd : Nat → FdT} {nu tk hr : Nat → Nat} {cnt sl sf bt bh : Nat} (hn : n ≤ 12) (hnow : now ≤ 60000) (hf : ∀ j, j < n → fOk now (fd j)) (hl : Lst fd nu tk hr n cnt) (h1 : 1 ≤ sf) (h2 : sf + sl < 1048576) : isB n fd sl sf (blV (sf + sl) sf nu tk hr cnt (0, bt, bh) (2 ^ cnt - 1)).1 := by
  sorry
