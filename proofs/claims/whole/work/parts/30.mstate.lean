-- the reference's cells
def z0F : FdT := (0, 0, 0, 0, 0, 0, 0)
abbrev flA (G : zGt) (f : FdT → Nat) (g : Nat → FdT) : va_E := .inl (G.2.1, 12, .inl (fun j => nI (f (g j))))
def zNc (c0 c1 c2 c3 c4 c5 c6 : Nat) : Prop := (c0 ≠ c1 ∧ c0 ≠ c2 ∧ c0 ≠ c3 ∧ c0 ≠ c4 ∧ c0 ≠ c5 ∧ c0 ≠ c6) ∧ (c1 ≠ c2 ∧ c1 ≠ c3 ∧ c1 ≠ c4 ∧ c1 ≠ c5 ∧ c1 ≠ c6) ∧ (c2 ≠ c3 ∧ c2 ≠ c4 ∧ c2 ≠ c5 ∧ c2 ≠ c6) ∧ (c3 ≠ c4 ∧ c3 ≠ c5 ∧ c3 ≠ c6) ∧ (c4 ≠ c5 ∧ c4 ≠ c6) ∧ c5 ≠ c6
def zMc (G : zGt) (F : Nat → va_E) (m0 c0 c1 c2 c3 c4 c5 c6 : Nat) (n now sl thr : Nat) (g : Nat → FdT) : Prop :=
  F m0 = .inr (4, [.ref c0, .ref c1, .ref c2, .ref c3, .ref c4, .ref c5, .ref c6, .int (nI n), .int (nI sl), .int (nI now), .int (nI thr)]) ∧ F c0 = flA G fMw g ∧ F c1 = flA G fCr g ∧ F c2 = flA G fSg g ∧ F c3 = flA G fOf g ∧ F c4 = flA G fHo g ∧ F c5 = flA G fTh g ∧ F c6 = flA G fCo g
def zGg (n now : Nat) (g : Nat → FdT) : Prop := (∀ k, k < n → fOk now (g k)) ∧ ∀ k, n ≤ k → g k = z0F
def zMo (G : zGt) (L : List Nat) (F : Nat → va_E) (m0 c0 c1 c2 c3 c4 c5 c6 : Nat) (n now sl thr : Nat) (g : Nat → FdT) : Prop :=
  (m0 ∈ L ∧ c0 ∈ L ∧ c1 ∈ L ∧ c2 ∈ L ∧ c3 ∈ L ∧ c4 ∈ L ∧ c5 ∈ L ∧ c6 ∈ L) ∧ zMc G F m0 c0 c1 c2 c3 c4 c5 c6 n now sl thr g ∧ zNc c0 c1 c2 c3 c4 c5 c6 ∧ zGg n now g ∧ (n ≤ 12 ∧ now ≤ 60000 ∧ sl ≤ 999 ∧ thr ≤ 2)
theorem fl_upd {g : Nat → FdT} {k : Nat} {r : FdT} (f : FdT → Nat) : upd (fun j => nI (f (g j))) k (nI (f r)) = fun j => nI (f (upF g k r j)) := by
  funext j
  unfold upF
  by_cases e : j = k
  · subst e; rw [pk_us, if_pos rfl]
  · rw [pk_un e, if_neg e]
theorem fl_same {g : Nat → FdT} {k : Nat} {r : FdT} (f : FdT → Nat) (h : f r = f (g k)) : (fun j => nI (f (g j))) = fun j => nI (f (upF g k r j)) := by
  funext j
  unfold upF
  by_cases e : j = k
  · subst e; rw [if_pos rfl, h]
  · rw [if_neg e]
theorem zGg.one {n now : Nat} {g : Nat → FdT} (h : zGg n now g) {k : Nat} (hk : k < n) {r : FdT} (hr : fOk now r) : zGg n now (upF g k r) := by
  refine ⟨fun j hj => ?_, fun j hj => ?_⟩
  · unfold upF
    by_cases e : j = k
    · rw [if_pos e]; exact hr
    · rw [if_neg e]; exact h.1 j hj
  · unfold upF
    rw [if_neg (by omega)]; exact h.2 j hj
def fBb (r : FdT) : FdT := (fSg r, fMw r, fCr r, 0, fHo r, 0, crV (fTh r))
theorem fBb_ok {now : Nat} {r : FdT} (h : fOk now r) : fOk now (fBb r) := by
  obtain ⟨h1, h2, h3, h4, h5, h6, h7, h8⟩ := h
  exact ⟨h1, h2, h3, h4, Nat.zero_le _, h6, Nat.zero_le _, crV_le _⟩
theorem and_bool {c : Nat} {P : Prop} [Decidable P] (h : c ≤ 1) : nI c &&& nI (if P then 1 else 0) = nI (if c = 1 ∧ P then 1 else 0) := by
  rcases (show c = 0 ∨ c = 1 by omega) with rfl | rfl
  · rw [if_neg (show ¬ ((0 : Nat) = 1 ∧ P) from fun q => absurd q.1 (by decide))]
    by_cases hp : P
    · rw [if_pos hp]; decide
    · rw [if_neg hp]; decide
  · by_cases hp : P
    · rw [if_pos hp, if_pos ⟨rfl, hp⟩]; decide
    · rw [if_neg hp, if_neg (fun q => hp q.2)]; decide
theorem zb_if {P : Prop} [Decidable P] : narrow .boolean (.int (nI (if P then 1 else 0))) = .int (nI (if P then 1 else 0)) := by split <;> rfl
theorem zb_iff {P : Prop} [Decidable P] : fits .boolean (.int (nI (if P then 1 else 0))) = true := by split <;> rfl
theorem fOk.up {now now1 : Nat} {r : FdT} (h : fOk now r) (h1 : now ≤ now1) : fOk now1 r := by
  obtain ⟨g1, g2, g3, g4, g5, g6, g7, g8⟩ := h
  exact ⟨g1, g2, g3, g4, g5, by omega, by omega, g8⟩
theorem zGg.up {n now now1 : Nat} {g : Nat → FdT} (h : zGg n now g) (h1 : now ≤ now1) : zGg n now1 g := ⟨fun k hk => (h.1 k hk).up h1, h.2⟩
-- the reference's search, set by set
def chI (n : Nat) (g : Nat → FdT) (sl sf s bs bt bh : Nat) : Prop := (bs = 0 ∧ ∀ q, q < s → ¬ cand n g sf q) ∨ (cand n g sf bs ∧ bs ≠ 0 ∧ bs < s ∧ bt = sT g bs n ∧ bh = sH g bs n ∧ ∀ q, q < s → cand n g sf q → kyS n g (sf + sl) bs ≤ kyS n g (sf + sl) q)
theorem sT_0 (g : Nat → FdT) : ∀ n, sT g 0 n = 0
  | 0 => rfl
  | n + 1 => by rw [sT, sT_0 g n]; unfold bitV; rw [Nat.zero_div]; rfl
theorem chI_0 {n : Nat} {g : Nat → FdT} {sl sf : Nat} (h : 1 ≤ sf) : chI n g sl sf 1 0 0 0 := by
  refine Or.inl ⟨rfl, fun q hq hc => ?_⟩
  obtain rfl : q = 0 := by omega
  have := hc.2.2
  rw [sT_0] at this
  omega
theorem chI_skip {n : Nat} {g : Nat → FdT} {sl sf s bs bt bh : Nat} (h : chI n g sl sf s bs bt bh) (hs : ¬ cand n g sf s ∨ (bs ≠ 0 ∧ ¬ keyV (sf + sl) (sT g s n) (sH g s n) s < keyV (sf + sl) bt bh bs)) : chI n g sl sf (s + 1) bs bt bh := by
  rcases h with ⟨h1, h2⟩ | ⟨h1, h2, h3, h4, h5, h6⟩
  · refine Or.inl ⟨h1, fun q hq => ?_⟩
    rcases Nat.lt_or_ge q s with c | c
    · exact h2 q c
    · obtain rfl : q = s := by omega
      rcases hs with hs | hs
      · exact hs
      · exact absurd h1 hs.1
  · refine Or.inr ⟨h1, h2, by omega, h4, h5, fun q hq hc => ?_⟩
    rcases Nat.lt_or_ge q s with c | c
    · exact h6 q c hc
    · obtain rfl : q = s := by omega
      rcases hs with hs | hs
      · exact absurd hc hs
      · rw [h4, h5] at hs
        exact Nat.not_lt.mp hs.2
theorem chI_take {n : Nat} {g : Nat → FdT} {sl sf s bs bt bh : Nat} (h : chI n g sl sf s bs bt bh) (h0 : s ≠ 0) (hc : cand n g sf s) (hs : bs = 0 ∨ keyV (sf + sl) (sT g s n) (sH g s n) s < keyV (sf + sl) bt bh bs) : chI n g sl sf (s + 1) s (sT g s n) (sH g s n) := by
  refine Or.inr ⟨hc, h0, by omega, rfl, rfl, fun q hq hcq => ?_⟩
  rcases Nat.lt_or_ge q s with c | c
  · rcases h with ⟨h1, h2⟩ | ⟨h1, h2, h3, h4, h5, h6⟩
    · exact absurd hcq (h2 q c)
    · rcases hs with hs | hs
      · exact absurd hs h2
      · rw [h4, h5] at hs
        exact Nat.le_trans (Nat.le_of_lt hs) (h6 q c hcq)
  · obtain rfl : q = s := by omega
    exact Nat.le_refl _
theorem chI_end {n : Nat} {g : Nat → FdT} {sl sf bs bt bh : Nat} (h : chI n g sl sf (2 ^ n) bs bt bh) : isB n g sl sf bs := by
  rcases h with ⟨h1, h2⟩ | ⟨h1, h2, h3, h4, h5, h6⟩
  · exact Or.inl ⟨h1, fun s hc => h2 s hc.1 hc⟩
  · exact Or.inr ⟨h1, fun s hc => h6 s hc.1 hc⟩
theorem chI_lt {n : Nat} {g : Nat → FdT} {sl sf s bs bt bh : Nat} (h : chI n g sl sf s bs bt bh) (hs : 1 ≤ s) : bs < s := by
  rcases h with ⟨h1, h2⟩ | ⟨h1, h2, h3, h4, h5, h6⟩
  · omega
  · exact h3
set_option maxRecDepth 100000 in
theorem sT_le {g : Nat → FdT} {s now : Nat} : ∀ {n : Nat}, (∀ j, j < n → fOk now (g j)) → sT g s n ≤ n * 1998
  | 0, _ => Nat.le_refl _
  | n + 1, h => by
    have h1 := sT_le (s := s) (n := n) (fun j hj => h j (by omega))
    have h2 := fTk_le (h n (by omega))
    rw [sT, Nat.succ_mul]
    split <;> omega
set_option maxRecDepth 100000 in
theorem sH_le {g : Nat → FdT} {s now : Nat} (hn : now ≤ 60000) : ∀ {n : Nat}, (∀ j, j < n → fOk now (g j)) → sH g s n ≤ n * 60000
  | 0, _ => Nat.le_refl _
  | n + 1, h => by
    have h1 := sH_le (s := s) hn (n := n) (fun j hj => h j (by omega))
    have h2 : fHo (g n) ≤ now := (h n (by omega)).2.2.2.2.2.1
    rw [sH, Nat.succ_mul]
    split
    · exact Nat.add_le_add h1 (Nat.le_trans h2 hn)
    · exact Nat.le_trans h1 (Nat.le_add_right _ _)
set_option maxRecDepth 100000 in
theorem chI_bd {n now : Nat} {g : Nat → FdT} {sl sf s bs bt bh : Nat} (h : chI n g sl sf s bs bt bh) (hb : bs = 0 → bt = 0 ∧ bh = 0) (hn : n ≤ 12) (hnow : now ≤ 60000) (hg : ∀ j, j < n → fOk now (g j)) : bt ≤ 24000 ∧ bh ≤ 720000 := by
  rcases h with ⟨h1, h2⟩ | ⟨h1, h2, h3, h4, h5, h6⟩
  · have := hb h1; omega
  · have g1 := sT_le (s := bs) hg
    have g2 := sH_le (s := bs) hnow hg
    have g3 : n * 1998 ≤ 12 * 1998 := Nat.mul_le_mul_right _ hn
    have g4 : n * 60000 ≤ 12 * 60000 := Nat.mul_le_mul_right _ hn
    omega
theorem sF_s {fd : Nat → FdT} {s k : Nat} : sF fd s (k + 1) ↔ sF fd s k ∧ (bitV s k = 1 → fOf (fd k) = 0 ∧ fCr (fd k) = 0) := by
  constructor
  · exact fun h => ⟨fun j hj => h j (by omega), h k (by omega)⟩
  · rintro ⟨h1, h2⟩ j hj hb
    rcases Nat.lt_or_ge j k with c | c
    · exact h1 j c hb
    · obtain rfl : j = k := by omega
      exact h2 hb
theorem cn_take {g : Nat → FdT} {s k cn : Nat} (hcf : cn = 1 ↔ sF g s k) (hb : bitV s k = 1) : (if cn = 1 ∧ (fOf (g k) = 0 ∧ fCr (g k) = 0) then 1 else 0) = 1 ↔ sF g s (k + 1) := by
  rw [sF_s, ← hcf]
  by_cases h : cn = 1 ∧ (fOf (g k) = 0 ∧ fCr (g k) = 0)
  · rw [if_pos h]; exact ⟨fun _ => ⟨h.1, fun _ => h.2⟩, fun _ => rfl⟩
  · rw [if_neg h]; exact ⟨fun q => absurd q (by decide), fun q => absurd ⟨q.1, q.2 hb⟩ h⟩
theorem cn_skip {g : Nat → FdT} {s k cn : Nat} (hcf : cn = 1 ↔ sF g s k) (hb : ¬ bitV s k = 1) : cn = 1 ↔ sF g s (k + 1) := by
  rw [sF_s, ← hcf]
  exact ⟨fun h9 => ⟨h9, fun h8 => absurd h8 hb⟩, fun h9 => h9.1⟩
theorem zGg.grow {n now : Nat} {g : Nat → FdT} (h : zGg n now g) {r : FdT} (hr : fOk now r) : zGg (n + 1) now (upF g n r) := by
  refine ⟨fun j hj => ?_, fun j hj => ?_⟩
  · unfold upF
    by_cases e : j = n
    · rw [if_pos e]; exact hr
    · rw [if_neg e]; exact h.1 j (by omega)
  · unfold upF
    rw [if_neg (by omega)]; exact h.2 j (by omega)
def ouV (g : Nat → FdT) : Nat → Nat
  | 0 => 0
  | k + 1 => ouV g k + if fOf (g k) = 1 ∧ fCr (g k) = 0 then 2 ^ k else 0
theorem ouV_lt (g : Nat → FdT) : ∀ k, ouV g k < 2 ^ k
  | 0 => by show (0 : Nat) < 1; omega
  | k + 1 => by
    have := ouV_lt g k
    rw [ouV, Nat.pow_succ]
    split <;> omega
theorem ouV_bit {g : Nat → FdT} : ∀ {n k : Nat}, k < n → (bitV (ouV g n) k = 1 ↔ fOf (g k) = 1 ∧ fCr (g k) = 0)
  | n + 1, k, hk => by
    have hl := ouV_lt g n
    rw [ouV]
    by_cases c : fOf (g n) = 1 ∧ fCr (g n) = 0
    · rw [if_pos c]
      rcases Nat.lt_or_ge k n with q | q
      · rw [(bitV_add hl).2 k q]; exact ouV_bit q
      · obtain rfl : k = n := by omega
        exact ⟨fun _ => c, fun _ => (bitV_add hl).1⟩
    · rw [if_neg c, Nat.add_zero]
      rcases Nat.lt_or_ge k n with q | q
      · exact ouV_bit q
      · obtain rfl : k = n := by omega
        rw [bitV_hi hl]
        exact ⟨fun h9 => absurd h9 (by decide), fun h9 => absurd h9 c⟩
def bbG (o i : Nat) (r : FdT) : FdT := if bitV o i = 1 then fBb r else r
def frT (r : FdT) : Nat := if fOf r = 0 ∧ fCr r = 0 then 1 else 0
theorem frC_sm (g : Nat → FdT) : ∀ n, smV (fun i => frT (g i)) n = frC g n
  | 0 => rfl
  | n + 1 => by rw [smV, frC, frC_sm g n]; rfl
theorem fRs_pos {now : Nat} {r : FdT} (h : fOk now r) : 1 ≤ fRs r := by
  obtain ⟨h1, h2, h3, h4, h5, h6, h7, h8⟩ := h
  unfold fRs rsV
  split
  · have : 1 * 100 ≤ fMw r * (100 + fCo r) := Nat.mul_le_mul h2 (by omega)
    omega
  · have : 1 * 100 ≤ fMw r * (100 + crV (fTh r)) := Nat.mul_le_mul h2 (by omega)
    omega
theorem rt_sw {now : Nat} {g : Nat → FdT} : ∀ {n : Nat}, (∀ j, j < n → fOk now (g j)) → (smV (fun j => rtV (g j)) n = 0 ↔ smV (fun i => swT (g i)) n = 0)
  | 0, _ => ⟨fun _ => rfl, fun _ => rfl⟩
  | n + 1, h => by
    have h1 := rt_sw (n := n) (fun j hj => h j (by omega))
    have h2 := fRs_pos (h n (by omega))
    rw [smV, smV]
    have e : (rtV (g n) = 0 ↔ swT (g n) = 0) := by
      unfold rtV swT; split
      · exact ⟨fun q => by omega, fun q => absurd q (by decide)⟩
      · exact ⟨fun _ => rfl, fun _ => rfl⟩
    show smV (fun j => rtV (g j)) n + rtV (g n) = 0 ↔ smV (fun i => swT (g i)) n + swT (g n) = 0
    rw [Nat.add_eq_zero_iff, Nat.add_eq_zero_iff, h1, e]
theorem rt_le {now : Nat} {g : Nat → FdT} {n : Nat} (h : ∀ j, j < n → fOk now (g j)) : smV (fun j => rtV (g j)) n ≤ n * 1998 := smV_le (fun j hj => by
  have h9 := fRs_le (h j hj)
  show rtV (g j) ≤ 1998
  unfold rtV; split <;> omega)
