-- a feeder: stage, load, critical, off, hours, hours of this cut, cold part
abbrev FdT : Type := Nat × Nat × Nat × Nat × Nat × Nat × Nat
abbrev fSg (r : FdT) : Nat := r.1
abbrev fMw (r : FdT) : Nat := r.2.1
abbrev fCr (r : FdT) : Nat := r.2.2.1
abbrev fOf (r : FdT) : Nat := r.2.2.2.1
abbrev fHo (r : FdT) : Nat := r.2.2.2.2.1
abbrev fTh (r : FdT) : Nat := r.2.2.2.2.2.1
abbrev fCo (r : FdT) : Nat := r.2.2.2.2.2.2
abbrev fdE (r : FdT) : va_E := .inr (1, [.int (nI (fSg r)), .int (nI (fMw r)), .int (nI (fCr r)), .int (nI (fOf r)), .int (nI (fHo r)), .int (nI (fTh r)), .int (nI (fCo r))])
def fOk (now : Nat) (r : FdT) : Prop := fSg r ≤ 3 ∧ 1 ≤ fMw r ∧ fMw r ≤ 999 ∧ fCr r ≤ 1 ∧ fOf r ≤ 1 ∧ fHo r ≤ now ∧ fTh r ≤ now ∧ fCo r ≤ 100
def fTk (r : FdT) : Nat := tkV (fMw r) (fOf r) (fCo r)
def fRs (r : FdT) : Nat := rsV (fMw r) (fOf r) (fTh r) (fCo r)
def fOff (r : FdT) : FdT := (fSg r, fMw r, fCr r, 1, fHo r, 0, 0)
def fOn (r : FdT) : FdT := (fSg r, fMw r, fCr r, 0, fHo r, fTh r, crV (fTh r))
def fPs (ps : Nat) (r : FdT) : FdT := (fSg r, fMw r, fCr r, fOf r, if fOf r = 0 then fHo r else fHo r + ps, if fOf r = 0 then fTh r else fTh r + ps, if fOf r = 0 then fCo r - 20 * ps else fCo r)
theorem fTk_le {now : Nat} {r : FdT} (h : fOk now r) : fTk r ≤ 1998 := by
  obtain ⟨h1, h2, h3, h4, h5, h6, h7, h8⟩ := h
  unfold fTk tkV
  split
  · have : fMw r * (100 + fCo r) ≤ 999 * 200 := Nat.mul_le_mul h3 (by omega)
    omega
  · omega
theorem fRs_le {now : Nat} {r : FdT} (h : fOk now r) : fRs r ≤ 1998 := by
  obtain ⟨h1, h2, h3, h4, h5, h6, h7, h8⟩ := h
  have hc := crV_le (fTh r)
  unfold fRs rsV
  split
  · have : fMw r * (100 + fCo r) ≤ 999 * 200 := Nat.mul_le_mul h3 (by omega)
    omega
  · have : fMw r * (100 + crV (fTh r)) ≤ 999 * 200 := Nat.mul_le_mul h3 (by omega)
    omega
theorem fTk_pos {now : Nat} {r : FdT} (h : fOk now r) (h0 : fOf r = 0) : 1 ≤ fTk r := by
  obtain ⟨h1, h2, h3, h4, h5, h6, h7, h8⟩ := h
  unfold fTk tkV
  rw [if_pos h0]
  have : 1 * 100 ≤ fMw r * (100 + fCo r) := Nat.mul_le_mul h2 (by omega)
  omega
theorem fOff_ok {now : Nat} {r : FdT} (h : fOk now r) : fOk now (fOff r) := by
  obtain ⟨h1, h2, h3, h4, h5, h6, h7, h8⟩ := h
  exact ⟨h1, h2, h3, h4, Nat.le_refl _, h6, Nat.zero_le _, Nat.zero_le _⟩
theorem fOn_ok {now : Nat} {r : FdT} (h : fOk now r) : fOk now (fOn r) := by
  obtain ⟨h1, h2, h3, h4, h5, h6, h7, h8⟩ := h
  exact ⟨h1, h2, h3, h4, Nat.zero_le _, h6, h7, crV_le _⟩
theorem fPs_ok {now ps : Nat} {r : FdT} (h : fOk now r) : fOk (now + ps) (fPs ps r) := by
  obtain ⟨h1, h2, h3, h4, h5, h6, h7, h8⟩ := h
  refine ⟨h1, h2, h3, h4, h5, ?_, ?_, ?_⟩
  · show (if fOf r = 0 then fHo r else fHo r + ps) ≤ now + ps
    split <;> omega
  · show (if fOf r = 0 then fTh r else fTh r + ps) ≤ now + ps
    split <;> omega
  · show (if fOf r = 0 then fCo r - 20 * ps else fCo r) ≤ 100
    split <;> omega
-- the office's cells
def zAr (G : zGt) (M : Nat → Prop) (L : List Nat) (F : Nat → va_E) (a1 : Nat) (ad : Nat → Nat) (n : Nat) : Prop := ∃ (mo : Int32) (ea nn : Nat) (fe : Nat → Option Nat), F a1 = .inr (0, [.int mo, .ref ea, .int (nI n)]) ∧ ((n = 0 ∧ ea = G.2.2.2.2.1) ∨ (ea ∈ L ∧ F ea = .inl (G.2.2.1, nn, .inr (.inr (.inr (.inr fe)))) ∧ n ≤ nn ∧ (nn = 10 ∨ nn = 15))) ∧ (∀ k, k < n → fe k = some (ad k)) ∧ (ea ∈ L → ¬ M ea)
def zSr (G : zGt) (F : Nat → va_E) (a2 b4 b5 b6 b7 : Nat) : Prop := ∃ (f4 f5 f6 f7 : Nat → Int32) (cnt sf nl bs bt bh : Nat), F a2 = .inr (2, [.ref b4, .ref b5, .ref b6, .ref b7, .int (nI cnt), .int (nI sf), .int (nI nl), .int (nI bs), .int (nI bt), .int (nI bh)]) ∧ (F b4 = .inl (G.2.1, 12, .inl f4) ∧ F b5 = .inl (G.2.1, 12, .inl f5) ∧ F b6 = .inl (G.2.1, 12, .inl f6) ∧ F b7 = .inl (G.2.1, 13, .inl f7)) ∧ f7 0 = nI 0 ∧ bt < 1048576 ∧ bh < 1048576
def zNb (b4 b5 b6 b7 : Nat) : Prop := b4 ≠ b5 ∧ b4 ≠ b6 ∧ b4 ≠ b7 ∧ b5 ≠ b6 ∧ b5 ≠ b7 ∧ b6 ≠ b7
def zFs (M : Nat → Prop) (L : List Nat) (F : Nat → va_E) (ad : Nat → Nat) (n now : Nat) (fd : Nat → FdT) : Prop := ∀ k, k < n → ad k ∈ L ∧ F (ad k) = fdE (fd k) ∧ fOk now (fd k) ∧ ¬ M (ad k)
def zIj (ad : Nat → Nat) (n : Nat) : Prop := ∀ i j, i < n → j < n → ad i = ad j → i = j
def zCo (G : zGt) (M : Nat → Prop) (L : List Nat) (F : Nat → va_E) (a0 a1 a2 b4 b5 b6 b7 : Nat) (ad : Nat → Nat) (n now sl : Nat) (fd : Nat → FdT) : Prop :=
  (a0 ∈ L ∧ a1 ∈ L ∧ a2 ∈ L ∧ b4 ∈ L ∧ b5 ∈ L ∧ b6 ∈ L ∧ b7 ∈ L) ∧ F a0 = .inr (3, [.ref a1, .ref a2, .int (nI now), .int (nI sl)]) ∧ zAr G M L F a1 ad n ∧ zSr G F a2 b4 b5 b6 b7 ∧ zNb b4 b5 b6 b7 ∧ zFs M L F ad n now fd ∧ zIj ad n ∧ (n ≤ 12 ∧ now ≤ 60000 ∧ sl ≤ 999) ∧ (¬ M a0 ∧ ¬ M a1 ∧ ¬ M a2 ∧ ¬ M b4 ∧ ¬ M b5 ∧ ¬ M b6 ∧ ¬ M b7)
def zCl (G : zGt) (M : Nat → Prop) (L : List Nat) (F : Nat → va_E) (a0 n now sl : Nat) (fd : Nat → FdT) : Prop := ∃ (a1 a2 b4 b5 b6 b7 : Nat) (ad : Nat → Nat), zCo G M L F a0 a1 a2 b4 b5 b6 b7 ad n now sl fd
theorem zAr.kept {G : zGt} {M : Nat → Prop} {L : List Nat} {F F1 : Nat → va_E} {a1 : Nat} {ad : Nat → Nat} {n : Nat} (h : zAr G M L F a1 ad n) (k1 : F1 a1 = F a1) (k2 : ∀ a, zk (F a) = 102 → F1 a = F a) : zAr G M L F1 a1 ad n := by
  obtain ⟨mo, ea, nn, fe, h1, h2, h3, h4⟩ := h
  refine ⟨mo, ea, nn, fe, k1.trans h1, ?_, h3, h4⟩
  rcases h2 with h2 | ⟨g1, g2, g3⟩
  · exact Or.inl h2
  · exact Or.inr ⟨g1, (k2 ea (by rw [g2]; rfl)).trans g2, g3⟩
theorem zSr.kept {G : zGt} {F F1 : Nat → va_E} {a2 b4 b5 b6 b7 : Nat} (h : zSr G F a2 b4 b5 b6 b7) (k1 : ∀ a, (zk (F a) = 2 ∨ zk (F a) = 100) → F1 a = F a) : zSr G F1 a2 b4 b5 b6 b7 := by
  obtain ⟨f4, f5, f6, f7, cnt, sf, nl, bs, bt, bh, h1, ⟨g4, g5, g6, g7⟩, h2⟩ := h
  exact ⟨f4, f5, f6, f7, cnt, sf, nl, bs, bt, bh, (k1 _ (by rw [h1]; exact Or.inl rfl)).trans h1, ⟨(k1 _ (by rw [g4]; exact Or.inr rfl)).trans g4, (k1 _ (by rw [g5]; exact Or.inr rfl)).trans g5, (k1 _ (by rw [g6]; exact Or.inr rfl)).trans g6, (k1 _ (by rw [g7]; exact Or.inr rfl)).trans g7⟩, h2⟩
/-- feeders alone have changed -/
theorem zCo.feed {G : zGt} {M : Nat → Prop} {L : List Nat} {F F1 : Nat → va_E} {a0 a1 a2 b4 b5 b6 b7 : Nat} {ad : Nat → Nat} {n now sl : Nat} {fd fd1 : Nat → FdT} (h : zCo G M L F a0 a1 a2 b4 b5 b6 b7 ad n now sl fd) (hk : ∀ b, (∀ j, j < n → b ≠ ad j) → F1 b = F b) (hf : ∀ j, j < n → F1 (ad j) = fdE (fd1 j) ∧ fOk now (fd1 j)) : zCo G M L F1 a0 a1 a2 b4 b5 b6 b7 ad n now sl fd1 := by
  obtain ⟨h1, h2, h3, h4, h5, h6, h7, h8, h9⟩ := h
  have key : ∀ a, zk (F a) ≠ 1 → F1 a = F a := fun a ha => hk a (fun j hj e => ha (by rw [e, (h6 j hj).2.1]; rfl))
  refine ⟨h1, (key a0 (by rw [h2]; exact Nat.ne_of_beq_eq_false rfl)).trans h2, ?_, ?_, h5, ?_, h7, h8, h9⟩
  · refine h3.kept (key a1 ?_) (fun a ha => key a (by rw [ha]; decide))
    obtain ⟨mo, ea, nn, fe, g1, -⟩ := h3
    rw [g1]; exact Nat.ne_of_beq_eq_false rfl
  · exact h4.kept (fun a ha => key a (by rcases ha with ha | ha <;> rw [ha] <;> decide))
  · exact fun k hk => ⟨(h6 k hk).1, (hf k hk).1, (hf k hk).2, (h6 k hk).2.2.2⟩
/-- the office's own numbers alone have changed -/
theorem zCo.own {G : zGt} {M : Nat → Prop} {L : List Nat} {F F1 : Nat → va_E} {a0 a1 a2 b4 b5 b6 b7 : Nat} {ad : Nat → Nat} {n now sl now1 sl1 : Nat} {fd : Nat → FdT} (h : zCo G M L F a0 a1 a2 b4 b5 b6 b7 ad n now sl fd) (hk : ∀ b, b ≠ a0 → F1 b = F b) (h0 : F1 a0 = .inr (3, [.ref a1, .ref a2, .int (nI now1), .int (nI sl1)])) (hn : now ≤ now1 ∧ now1 ≤ 60000 ∧ sl1 ≤ 999) : zCo G M L F1 a0 a1 a2 b4 b5 b6 b7 ad n now1 sl1 fd := by
  obtain ⟨h1, h2, h3, h4, h5, h6, h7, h8, h9⟩ := h
  have key : ∀ a, zk (F a) ≠ 3 → F1 a = F a := fun a ha => hk a (fun e => ha (by rw [e, h2]; rfl))
  refine ⟨h1, h0, ?_, ?_, h5, ?_, h7, ⟨h8.1, hn.2.1, hn.2.2⟩, h9⟩
  · refine h3.kept (key a1 ?_) (fun a ha => key a (by rw [ha]; decide))
    obtain ⟨mo, ea, nn, fe, g1, -⟩ := h3
    rw [g1]; exact Nat.ne_of_beq_eq_false rfl
  · exact h4.kept (fun a ha => key a (by rcases ha with ha | ha <;> rw [ha] <;> decide))
  · intro k hk
    obtain ⟨g1, g2, ⟨q1, q2, q3, q4, q5, q6, q7, q8⟩, g4⟩ := h6 k hk
    exact ⟨g1, (key _ (by rw [g2]; exact Nat.ne_of_beq_eq_false rfl)).trans g2, ⟨q1, q2, q3, q4, q5, by omega, by omega, q8⟩, g4⟩
/-- the search alone has changed -/
theorem zCo.srch {G : zGt} {M : Nat → Prop} {L : List Nat} {F F1 : Nat → va_E} {a0 a1 a2 b4 b5 b6 b7 : Nat} {ad : Nat → Nat} {n now sl : Nat} {fd : Nat → FdT} (h : zCo G M L F a0 a1 a2 b4 b5 b6 b7 ad n now sl fd) (hk : ∀ b, b ≠ a2 → b ≠ b4 → b ≠ b5 → b ≠ b6 → b ≠ b7 → F1 b = F b) (hs : zSr G F1 a2 b4 b5 b6 b7) : zCo G M L F1 a0 a1 a2 b4 b5 b6 b7 ad n now sl fd := by
  obtain ⟨h1, h2, h3, h4, h5, h6, h7, h8, h9⟩ := h
  have key : ∀ a, zk (F a) ≠ 2 → zk (F a) ≠ 100 → F1 a = F a := fun a ha ha2 => by
    obtain ⟨f4, f5, f6, f7, cnt, sf, nl, bs, bt, bh, g1, ⟨g4, g5, g6, g7⟩, -⟩ := h4
    exact hk a (fun e => ha (by rw [e, g1]; rfl)) (fun e => ha2 (by rw [e, g4]; rfl)) (fun e => ha2 (by rw [e, g5]; rfl)) (fun e => ha2 (by rw [e, g6]; rfl)) (fun e => ha2 (by rw [e, g7]; rfl))
  refine ⟨h1, (key a0 (by rw [h2]; exact Nat.ne_of_beq_eq_false rfl) (by rw [h2]; exact Nat.ne_of_beq_eq_false rfl)).trans h2, ?_, hs, h5, ?_, h7, h8, h9⟩
  · refine h3.kept (key a1 ?_ ?_) (fun a ha => key a (by rw [ha]; decide) (by rw [ha]; decide))
    · obtain ⟨mo, ea, nn, fe, g1, -⟩ := h3
      rw [g1]; exact Nat.ne_of_beq_eq_false rfl
    · obtain ⟨mo, ea, nn, fe, g1, -⟩ := h3
      rw [g1]; exact Nat.ne_of_beq_eq_false rfl
  · intro k hk
    obtain ⟨g1, g2, g3, g4⟩ := h6 k hk
    exact ⟨g1, (key _ (by rw [g2]; exact Nat.ne_of_beq_eq_false rfl) (by rw [g2]; exact Nat.ne_of_beq_eq_false rfl)).trans g2, g3, g4⟩
theorem zCo.apart {G : zGt} {M : Nat → Prop} {L : List Nat} {F : Nat → va_E} {a0 a1 a2 b4 b5 b6 b7 : Nat} {ad : Nat → Nat} {n now sl : Nat} {fd : Nat → FdT} (h : zCo G M L F a0 a1 a2 b4 b5 b6 b7 ad n now sl fd) {b : Nat} (hb : M b) : ∀ j, j < n → b ≠ ad j := fun j hj e => (h.2.2.2.2.2.1 j hj).2.2.2 (e ▸ hb)
def upF (fd : Nat → FdT) (k : Nat) (r : FdT) : Nat → FdT := fun j => if j = k then r else fd j
theorem zCo.one {G : zGt} {M : Nat → Prop} {L : List Nat} {F F1 : Nat → va_E} {a0 a1 a2 b4 b5 b6 b7 : Nat} {ad : Nat → Nat} {n now sl : Nat} {fd : Nat → FdT} (h : zCo G M L F a0 a1 a2 b4 b5 b6 b7 ad n now sl fd) {k : Nat} (hkn : k < n) {r : FdT} (hr : fOk now r) (h1 : F1 (ad k) = fdE r) (hk : ∀ b, b ≠ ad k → F1 b = F b) : zCo G M L F1 a0 a1 a2 b4 b5 b6 b7 ad n now sl (upF fd k r) := by
  have h6 := h.2.2.2.2.2.1
  have h7 := h.2.2.2.2.2.2.1
  refine h.feed (fun b hb => hk b (hb k hkn)) (fun j hj => ?_)
  unfold upF
  by_cases e : j = k
  · subst e
    rw [if_pos rfl]; exact ⟨h1, hr⟩
  · rw [if_neg e]
    exact ⟨(hk _ (fun q => e (h7 j k hj hkn q))).trans (h6 j hj).2.1, (h6 j hj).2.2.1⟩
def fdK (g : Nat → FdT → FdT) (fd : Nat → FdT) (k : Nat) : Nat → FdT := fun j => if j < k then g j (fd j) else fd j
theorem fdK_0 (g : Nat → FdT → FdT) (fd : Nat → FdT) : fdK g fd 0 = fd := by
  funext j; unfold fdK; rw [if_neg (Nat.not_lt_zero j)]
theorem fdK_at (g : Nat → FdT → FdT) (fd : Nat → FdT) (k : Nat) : fdK g fd k k = fd k := by
  unfold fdK; rw [if_neg (Nat.lt_irrefl k)]
theorem fdK_s (g : Nat → FdT → FdT) (fd : Nat → FdT) (k : Nat) {r : FdT} (h : g k (fd k) = r) : upF (fdK g fd k) k r = fdK g fd (k + 1) := by
  funext j; unfold upF fdK
  by_cases e : j = k
  · subst e; rw [if_pos rfl, if_pos (Nat.lt_succ_self _), h]
  · rw [if_neg e]
    by_cases d : j < k
    · rw [if_pos d, if_pos (by omega)]
    · rw [if_neg d, if_neg (by omega)]
theorem fdK_n (g : Nat → FdT → FdT) (fd : Nat → FdT) (k : Nat) (h : g k (fd k) = fd k) : fdK g fd k = fdK g fd (k + 1) := by
  funext j; unfold fdK
  by_cases e : j = k
  · subst e; rw [if_neg (Nat.lt_irrefl _), if_pos (Nat.lt_succ_self _), h]
  · by_cases d : j < k
    · rw [if_pos d, if_pos (by omega)]
    · rw [if_neg d, if_neg (by omega)]
def zIn (lo hi : Nat) (v : Int32) : Prop := (lo : Int) ≤ v.toInt ∧ v.toInt ≤ (hi : Int)
def zIx (n : Nat) (v : Int32) : Prop := 0 ≤ v.toInt ∧ v.toInt < (n : Int)
theorem zNat {v : Int32} (h : 0 ≤ v.toInt) : ∃ j : Nat, v = nI j ∧ v.toInt = (j : Int) := by
  obtain ⟨j, h1, h2⟩ := nI_of (x := v) (fun q => by
    have := (zi_lt rfl zi_0).mp q
    omega)
  exact ⟨j, h2, by rw [h2]; exact nI_toInt h1⟩
theorem zIn_of {lo hi : Nat} {v : Int32} (h : zIn lo hi v) : ∃ j : Nat, v = nI j ∧ lo ≤ j ∧ j ≤ hi := by
  obtain ⟨h1, h2⟩ := h
  obtain ⟨j, h3, h4⟩ := zNat (v := v) (by omega)
  exact ⟨j, h3, by omega, by omega⟩
theorem zIx_of {n : Nat} {v : Int32} (h : zIx n v) : ∃ j : Nat, v = nI j ∧ j < n := by
  obtain ⟨h1, h2⟩ := h
  obtain ⟨j, h3, h4⟩ := zNat (v := v) h1
  exact ⟨j, h3, by omega⟩
-- spread, the feeder cut longest
def spT (fd : Nat → FdT) : Nat → Nat × Nat × Nat
  | 0 => (0, 0, 0)
  | k + 1 => if fCr (fd k) = 0 then (1, (if (spT fd k).1 = 0 then fHo (fd k) else if fHo (fd k) < (spT fd k).2.1 then fHo (fd k) else (spT fd k).2.1), (if (spT fd k).1 = 0 then fHo (fd k) else if (spT fd k).2.2 < fHo (fd k) then fHo (fd k) else (spT fd k).2.2)) else spT fd k
theorem spT_ok {fd : Nat → FdT} {B : Nat} : ∀ {k : Nat}, (∀ j, j < k → fHo (fd j) ≤ B) → (spT fd k).1 ≤ 1 ∧ (spT fd k).2.1 ≤ (spT fd k).2.2 ∧ (spT fd k).2.2 ≤ B
  | 0, _ => ⟨Nat.zero_le _, Nat.le_refl _, Nat.zero_le _⟩
  | k + 1, h => by
    obtain ⟨h1, h2, h3⟩ := spT_ok (k := k) (fun j hj => h j (by omega))
    have h4 := h k (by omega)
    rw [spT]
    split
    · refine ⟨Nat.le_refl _, ?_, ?_⟩
      · show (if (spT fd k).1 = 0 then fHo (fd k) else if fHo (fd k) < (spT fd k).2.1 then fHo (fd k) else (spT fd k).2.1) ≤ (if (spT fd k).1 = 0 then fHo (fd k) else if (spT fd k).2.2 < fHo (fd k) then fHo (fd k) else (spT fd k).2.2)
        split
        · exact Nat.le_refl _
        · split <;> split <;> omega
      · show (if (spT fd k).1 = 0 then fHo (fd k) else if (spT fd k).2.2 < fHo (fd k) then fHo (fd k) else (spT fd k).2.2) ≤ B
        split
        · exact h4
        · split <;> omega
    · exact ⟨h1, h2, h3⟩
def mcT (fd : Nat → FdT) : Nat → Nat × Nat × Nat
  | 0 => (0, 0, 0)
  | k + 1 => if (fOf (fd k) = 0 ∧ fCr (fd k) = 0) ∧ ((mcT fd k).1 = 0 ∨ (mcT fd k).2.2 < fHo (fd k)) then (1, k, fHo (fd k)) else mcT fd k
def mcI (t : Nat × Nat × Nat) : Int32 := if t.1 = 0 then -1 else nI t.2.1
theorem mcT_ok {fd : Nat → FdT} {B : Nat} : ∀ {k : Nat}, (∀ j, j < k → fHo (fd j) ≤ B) → (mcT fd k).2.1 ≤ k ∧ (mcT fd k).2.2 ≤ B
  | 0, _ => ⟨Nat.le_refl _, Nat.zero_le _⟩
  | k + 1, h => by
    obtain ⟨h1, h2⟩ := mcT_ok (k := k) (fun j hj => h j (by omega))
    have h4 := h k (by omega)
    rw [mcT]
    split
    · exact ⟨Nat.le_succ k, h4⟩
    · exact ⟨by omega, h2⟩
theorem mcI_iff {t : Nat × Nat × Nat} (h : t.2.1 ≤ 1000) : mcI t = -1 ↔ t.1 = 0 := by
  unfold mcI
  split
  · exact ⟨fun _ => by assumption, fun _ => rfl⟩
  · refine ⟨fun q => ?_, fun q => absurd q (by assumption)⟩
    have h1 : (nI t.2.1).toInt = (t.2.1 : Int) := nI_toInt (by omega)
    rw [q] at h1
    have : (-1 : Int32).toInt = -1 := by decide
    omega
theorem smV_s (f : Nat → Nat) (k : Nat) : smV f (k + 1) = smV f k + f k := rfl
theorem mn_nI {a b : Nat} (ha : a < 2147483648) (hb : b < 2147483648) : (if nI b < nI a then nI b else nI a) = nI (if b < a then b else a) := by
  by_cases c : b < a
  · rw [if_pos ((nI_ltI (by omega) (by omega)).mpr c), if_pos c]
  · rw [if_neg (fun q => c ((nI_ltI (by omega) (by omega)).mp q)), if_neg c]
theorem mx_nI {a b : Nat} (ha : a < 2147483648) (hb : b < 2147483648) : (if nI a < nI b then nI b else nI a) = nI (if a < b then b else a) := by
  by_cases c : a < b
  · rw [if_pos ((nI_ltI (by omega) (by omega)).mpr c), if_pos c]
  · rw [if_neg (fun q => c ((nI_ltI (by omega) (by omega)).mp q)), if_neg c]
def fdLd (j : Nat) (r : FdT) : FdT := (fSg r, j, fCr r, fOf r, fHo r, fTh r, fCo r)
def fdCr (j : Nat) (r : FdT) : FdT := (fSg r, fMw r, j, fOf r, fHo r, fTh r, fCo r)
theorem fdLd_ok {now j : Nat} {r : FdT} (h : fOk now r) (h1 : 1 ≤ j) (h2 : j ≤ 999) : fOk now (fdLd j r) := by
  obtain ⟨g1, g2, g3, g4, g5, g6, g7, g8⟩ := h
  exact ⟨g1, h1, h2, g4, g5, g6, g7, g8⟩
theorem fdCr_ok {now j : Nat} {r : FdT} (h : fOk now r) (h1 : j ≤ 1) : fOk now (fdCr j r) := by
  obtain ⟨g1, g2, g3, g4, g5, g6, g7, g8⟩ := h
  exact ⟨g1, g2, g3, h1, g5, g6, g7, g8⟩
def trG (j : Nat) (r : FdT) : FdT := if (fOf r = 0 ∧ fCr r = 0) ∧ 1 ≤ fSg r ∧ fSg r ≤ j then fOff r else r
def trT (j : Nat) (r : FdT) : Nat := if (fOf r = 0 ∧ fCr r = 0) ∧ 1 ≤ fSg r ∧ fSg r ≤ j then fTk r else 0
def reG (b i : Nat) (r : FdT) : FdT := if bitV b i = 1 then fOff r else r
def reT (b i : Nat) (r : FdT) : Nat := if bitV b i = 1 then fTk r else 0
def swG (b i : Nat) (r : FdT) : FdT := if fOf r = 1 ∧ fCr r = 0 then fOn r else if bitV b i = 1 then fOff r else r
def swT (r : FdT) : Nat := if fOf r = 1 ∧ fCr r = 0 then 1 else 0
def rtV (r : FdT) : Nat := if fOf r = 1 ∧ fCr r = 0 then fRs r else 0
