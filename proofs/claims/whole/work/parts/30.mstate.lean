-- the reference's cells
def z0F : FdT := (0, 0, 0, 0, 0, 0, 0)
abbrev flA (G : zGt) (f : FdT → Nat) (g : Nat → FdT) : va_E := .inl (G.2.1, 12, .inl (fun j => nI (f (g j))))
def zNc (c0 c1 c2 c3 c4 c5 c6 : Nat) : Prop := (c0 ≠ c1 ∧ c0 ≠ c2 ∧ c0 ≠ c3 ∧ c0 ≠ c4 ∧ c0 ≠ c5 ∧ c0 ≠ c6) ∧ (c1 ≠ c2 ∧ c1 ≠ c3 ∧ c1 ≠ c4 ∧ c1 ≠ c5 ∧ c1 ≠ c6) ∧ (c2 ≠ c3 ∧ c2 ≠ c4 ∧ c2 ≠ c5 ∧ c2 ≠ c6) ∧ (c3 ≠ c4 ∧ c3 ≠ c5 ∧ c3 ≠ c6) ∧ (c4 ≠ c5 ∧ c4 ≠ c6) ∧ c5 ≠ c6
def zMc (G : zGt) (F : Nat → va_E) (m0 c0 c1 c2 c3 c4 c5 c6 : Nat) (n now sl thr : Nat) (g : Nat → FdT) : Prop :=
  F m0 = .inr (4, [.ref c0, .ref c1, .ref c2, .ref c3, .ref c4, .ref c5, .ref c6, .int (nI n), .int (nI sl), .int (nI now), .int (nI thr)]) ∧ F c0 = flA G fMw g ∧ F c1 = flA G fCr g ∧ F c2 = flA G fSg g ∧ F c3 = flA G fOf g ∧ F c4 = flA G fHo g ∧ F c5 = flA G fTh g ∧ F c6 = flA G fCo g
def zGg (n now : Nat) (g : Nat → FdT) : Prop := (∀ k, k < n → fOk now (g k)) ∧ ∀ k, n ≤ k → g k = z0F
def zMo (G : zGt) (L : List Nat) (F : Nat → va_E) (m0 c0 c1 c2 c3 c4 c5 c6 : Nat) (n now sl thr : Nat) (g : Nat → FdT) : Prop :=
  (m0 ∈ L ∧ c0 ∈ L ∧ c1 ∈ L ∧ c2 ∈ L ∧ c3 ∈ L ∧ c4 ∈ L ∧ c5 ∈ L ∧ c6 ∈ L) ∧ zMc G F m0 c0 c1 c2 c3 c4 c5 c6 n now sl thr g ∧ zNc c0 c1 c2 c3 c4 c5 c6 ∧ zGg n now g ∧ (n ≤ 12 ∧ now ≤ 60000 ∧ sl ≤ 999 ∧ thr ≤ 2)
theorem fl_upd {g : Nat → FdT} {k : Nat} {r : FdT} (f : FdT → Nat) : upd (fun j => nI (f (g j))) k (nI (f r)) = fun j => nI (f (upF g k r j)) := by
  funext j
  unfold upF
  by_cases e : j = k
  · subst e; rw [pk_us, if_pos rfl]
  · rw [pk_un e, if_neg e]
theorem fl_same {g : Nat → FdT} {k : Nat} {r : FdT} (f : FdT → Nat) (h : f r = f (g k)) : (fun j => nI (f (g j))) = fun j => nI (f (upF g k r j)) := by
  funext j
  unfold upF
  by_cases e : j = k
  · subst e; rw [if_pos rfl, h]
  · rw [if_neg e]
theorem zGg.one {n now : Nat} {g : Nat → FdT} (h : zGg n now g) {k : Nat} (hk : k < n) {r : FdT} (hr : fOk now r) : zGg n now (upF g k r) := by
  refine ⟨fun j hj => ?_, fun j hj => ?_⟩
  · unfold upF
    by_cases e : j = k
    · rw [if_pos e]; exact hr
    · rw [if_neg e]; exact h.1 j hj
  · unfold upF
    rw [if_neg (by omega)]; exact h.2 j hj
def fBb (r : FdT) : FdT := (fSg r, fMw r, fCr r, 0, fHo r, 0, crV (fTh r))
theorem fBb_ok {now : Nat} {r : FdT} (h : fOk now r) : fOk now (fBb r) := by
  obtain ⟨h1, h2, h3, h4, h5, h6, h7, h8⟩ := h
  exact ⟨h1, h2, h3, h4, Nat.zero_le _, h6, Nat.zero_le _, crV_le _⟩
theorem and_bool {c : Nat} {P : Prop} [Decidable P] (h : c ≤ 1) : nI c &&& nI (if P then 1 else 0) = nI (if c = 1 ∧ P then 1 else 0) := by
  rcases (show c = 0 ∨ c = 1 by omega) with rfl | rfl
  · rw [if_neg (show ¬ ((0 : Nat) = 1 ∧ P) from fun q => absurd q.1 (by decide))]
    by_cases hp : P
    · rw [if_pos hp]; decide
    · rw [if_neg hp]; decide
  · by_cases hp : P
    · rw [if_pos hp, if_pos ⟨rfl, hp⟩]; decide
    · rw [if_neg hp, if_neg (fun q => hp q.2)]; decide
theorem zb_if {P : Prop} [Decidable P] : narrow .boolean (.int (nI (if P then 1 else 0))) = .int (nI (if P then 1 else 0)) := by split <;> rfl
theorem zb_iff {P : Prop} [Decidable P] : fits .boolean (.int (nI (if P then 1 else 0))) = true := by split <;> rfl
