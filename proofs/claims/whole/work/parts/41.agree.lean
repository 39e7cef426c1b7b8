-- the office's feeders and the reference's
def fEq (f g : FdT) : Prop := fSg f = fSg g ∧ fMw f = fMw g ∧ fCr f = fCr g ∧ fOf f = fOf g ∧ fHo f = fHo g ∧ fCo f = fCo g ∧ (fOf f ≠ 0 → fTh f = fTh g)
def fRl (n : Nat) (fd g : Nat → FdT) : Prop := ∀ k, k < n → fEq (fd k) (g k)
theorem fEq.rfl' (f : FdT) : fEq f f := ⟨rfl, rfl, rfl, rfl, rfl, rfl, fun _ => rfl⟩
theorem fEq.tk {f g : FdT} (h : fEq f g) : fTk f = fTk g := by
  obtain ⟨h1, h2, h3, h4, h5, h6, h7⟩ := h
  unfold fTk; rw [h2, h4, h6]
theorem fEq.rs {f g : FdT} (h : fEq f g) : fRs f = fRs g := by
  obtain ⟨h1, h2, h3, h4, h5, h6, h7⟩ := h
  unfold fRs
  by_cases c : fOf f = 0
  · unfold rsV; rw [if_pos c, if_pos (h4 ▸ c), h2, h6]
  · rw [h2, h4, h6, h7 c]
theorem fEq.off {f g : FdT} (h : fEq f g) : fEq (fOff f) (fOff g) := by
  obtain ⟨h1, h2, h3, h4, h5, h6, h7⟩ := h
  exact ⟨h1, h2, h3, rfl, h5, rfl, fun _ => rfl⟩
theorem fEq.on {f g : FdT} (h : fEq f g) (c : fOf f ≠ 0) : fEq (fOn f) (fBb g) := by
  obtain ⟨h1, h2, h3, h4, h5, h6, h7⟩ := h
  exact ⟨h1, h2, h3, rfl, h5, congrArg crV (h7 c), fun q => absurd rfl q⟩
theorem fEq.ps {f g : FdT} (h : fEq f g) (ps : Nat) : fEq (fPs ps f) (fPs ps g) := by
  obtain ⟨h1, h2, h3, h4, h5, h6, h7⟩ := h
  refine ⟨h1, h2, h3, h4, ?_, ?_, fun c => ?_⟩
  · show (if fOf f = 0 then fHo f else fHo f + ps) = (if fOf g = 0 then fHo g else fHo g + ps)
    rw [h4, h5]
  · show (if fOf f = 0 then fCo f - 20 * ps else fCo f) = (if fOf g = 0 then fCo g - 20 * ps else fCo g)
    rw [h4, h6]
  · have c' : fOf f ≠ 0 := c
    show (if fOf f = 0 then fTh f else fTh f + ps) = (if fOf g = 0 then fTh g else fTh g + ps)
    rw [if_neg c', if_neg (h4 ▸ c'), h7 c']
theorem fEq.ld {f g : FdT} (h : fEq f g) (j : Nat) : fEq (fdLd j f) (fdLd j g) := by
  obtain ⟨h1, h2, h3, h4, h5, h6, h7⟩ := h
  exact ⟨h1, rfl, h3, h4, h5, h6, h7⟩
theorem fEq.cr {f g : FdT} (h : fEq f g) (j : Nat) : fEq (fdCr j f) (fdCr j g) := by
  obtain ⟨h1, h2, h3, h4, h5, h6, h7⟩ := h
  exact ⟨h1, h2, rfl, h4, h5, h6, h7⟩
theorem fEq.tT {f g : FdT} (h : fEq f g) (j : Nat) : trT j f = trT j g := by
  have ht := h.tk
  obtain ⟨h1, h2, h3, h4, h5, h6, h7⟩ := h
  unfold trT; rw [h1, h3, h4, ht]
theorem fEq.tG {f g : FdT} (h : fEq f g) (j : Nat) : fEq (trG j f) (trG j g) := by
  have ho := h.off
  have h' := h
  obtain ⟨h1, h2, h3, h4, h5, h6, h7⟩ := h
  unfold trG; rw [h1, h3, h4]
  split
  · exact ho
  · exact h'
theorem fEq.sw {f g : FdT} (h : fEq f g) : swT f = swT g := by
  obtain ⟨h1, h2, h3, h4, h5, h6, h7⟩ := h
  unfold swT; rw [h3, h4]
theorem fEq.rt {f g : FdT} (h : fEq f g) : rtV f = rtV g := by
  have hr := h.rs
  obtain ⟨h1, h2, h3, h4, h5, h6, h7⟩ := h
  unfold rtV; rw [h3, h4, hr]
theorem fEq.rT {f g : FdT} (h : fEq f g) (b i : Nat) : reT b i f = reT b i g := by
  unfold reT; rw [h.tk]
theorem fEq.rG {f g : FdT} (h : fEq f g) (b i : Nat) : fEq (reG b i f) (reG b i g) := by
  unfold reG
  split
  · exact h.off
  · exact h
theorem fRl.up {n : Nat} {fd g : Nat → FdT} (h : fRl n fd g) {k : Nat} {r r' : FdT} (hr : fEq r r') : fRl n (upF fd k r) (upF g k r') := by
  intro j hj
  unfold upF
  split
  · exact hr
  · exact h j hj
theorem fRl.grow {n : Nat} {fd g : Nat → FdT} (h : fRl n fd g) {r r' : FdT} (hr : fEq r r') : fRl (n + 1) (upF fd n r) (upF g n r') := by
  intro j hj
  unfold upF
  split
  · exact hr
  · exact h j (by omega)
theorem fRl.K {n : Nat} {fd g : Nat → FdT} {G1 G2 : Nat → FdT → FdT} (h : ∀ k, k < n → fEq (G1 k (fd k)) (G2 k (g k))) : fRl n (fdK G1 fd n) (fdK G2 g n) := by
  intro j hj
  unfold fdK
  rw [if_pos hj, if_pos hj]
  exact h j hj
theorem fRl.sm {n : Nat} {fd g : Nat → FdT} (h : fRl n fd g) {f : FdT → Nat} (hf : ∀ a b, fEq a b → f a = f b) : smV (fun j => f (fd j)) n = smV (fun j => f (g j)) n := smV_cong (fun j hj => hf _ _ (h j hj))
theorem fRl.S {n : Nat} {fd g : Nat → FdT} {s : Nat} : ∀ {k : Nat}, (∀ j, j < k → fEq (fd j) (g j)) → sT fd s k = sT g s k ∧ sH fd s k = sH g s k ∧ (sF fd s k ↔ sF g s k)
  | 0, _ => ⟨rfl, rfl, ⟨fun _ j hj => absurd hj (Nat.not_lt_zero j), fun _ j hj => absurd hj (Nat.not_lt_zero j)⟩⟩
  | k + 1, h => by
    obtain ⟨h1, h2, -⟩ := fRl.S (n := n) (s := s) (k := k) (fun j hj => h j (by omega))
    refine ⟨by rw [sT, sT, h1, (h k (by omega)).tk], by rw [sH, sH, h2, (h k (by omega)).2.2.2.2.1], fun q j hj hb => ?_, fun q j hj hb => ?_⟩
    · have := h j hj
      rw [← this.2.2.2.1, ← this.2.2.1]; exact q j hj hb
    · have := h j hj
      rw [this.2.2.2.1, this.2.2.1]; exact q j hj hb
theorem fRl.cd {n : Nat} {fd g : Nat → FdT} (h : fRl n fd g) (sf s : Nat) : cand n fd sf s ↔ cand n g sf s := by
  obtain ⟨h1, h2, h3⟩ := fRl.S (n := n) (s := s) h
  unfold cand; rw [h1, h3]
theorem fRl.ky {n : Nat} {fd g : Nat → FdT} (h : fRl n fd g) (nl s : Nat) : kyS n fd nl s = kyS n g nl s := by
  obtain ⟨h1, h2, h3⟩ := fRl.S (n := n) (s := s) h
  unfold kyS; rw [h1, h2]
theorem fRl.B {n : Nat} {fd g : Nat → FdT} (h : fRl n fd g) {sl sf b : Nat} (hb : isB n fd sl sf b) : isB n g sl sf b := by
  rcases hb with ⟨h1, h2⟩ | ⟨h1, h2⟩
  · exact Or.inl ⟨h1, fun s hs => h2 s ((h.cd sf s).mpr hs)⟩
  · exact Or.inr ⟨(h.cd sf b).mp h1, fun s hs => by rw [← h.ky, ← h.ky]; exact h2 s ((h.cd sf s).mpr hs)⟩
theorem key_mod (nl t h s : Nat) : keyV nl t h s % 4096 = s % 4096 := by
  unfold keyV; split <;> omega
theorem isB_one {n : Nat} {g : Nat → FdT} {sl sf a b : Nat} (hn : n ≤ 12) (h1 : 1 ≤ sf) (ha : isB n g sl sf a) (hb : isB n g sl sf b) : a = b := by
  have hp : 2 ^ n ≤ 2 ^ 12 := Nat.pow_le_pow_right (by decide) hn
  rw [show (2 : Nat) ^ 12 = 4096 from rfl] at hp
  rcases ha with ⟨a1, a2⟩ | ⟨a1, a2⟩ <;> rcases hb with ⟨b1, b2⟩ | ⟨b1, b2⟩
  · rw [a1, b1]
  · exact absurd b1 (a2 b)
  · exact absurd a1 (b2 a)
  · have e : kyS n g (sf + sl) a = kyS n g (sf + sl) b := Nat.le_antisymm (a2 b b1) (b2 a a1)
    have e1 := key_mod (sf + sl) (sT g a n) (sH g a n) a
    have e2 := key_mod (sf + sl) (sT g b n) (sH g b n) b
    have e3 : a % 4096 = b % 4096 := by rw [← e1, ← e2]; exact congrArg (· % 4096) e
    have := a1.1
    have := b1.1
    omega
theorem isB_free {n : Nat} {g : Nat → FdT} {sl sf b : Nat} (hb : isB n g sl sf b) {k : Nat} (hk : k < n) (h : bitV b k = 1) : fOf (g k) = 0 ∧ fCr (g k) = 0 := by
  rcases hb with ⟨rfl, -⟩ | ⟨h1, -⟩
  · unfold bitV at h; rw [Nat.zero_div] at h; exact absurd h (by decide)
  · exact h1.2.1 k hk h
theorem fRl.rot {n : Nat} {fd g : Nat → FdT} (h : fRl n fd g) {sl sf b : Nat} (hb : isB n g sl sf b) : fRl n (fdK (fun i r => swG b i r) fd n) (fdK (fun i r => bbG (ouV g n) i r) (fdK (fun i r => reG b i r) g n) n) := by
  intro k hk
  unfold fdK
  rw [if_pos hk, if_pos hk, if_pos hk]
  have hg := h k hk
  have ho := ouV_bit (g := g) hk
  show fEq (swG b k (fd k)) (bbG (ouV g n) k (reG b k (g k)))
  unfold swG bbG reG
  rw [hg.2.2.2.1, hg.2.2.1]
  by_cases c : fOf (g k) = 1 ∧ fCr (g k) = 0
  · rw [if_pos c, if_pos (ho.mpr c), if_neg (fun q => by have := (isB_free hb hk q).1; omega)]
    exact hg.on (by rw [hg.2.2.2.1, c.1]; decide)
  · rw [if_neg c, if_neg (fun q => c (ho.mp q))]
    split
    · exact hg.off
    · exact hg
theorem fRl.fc {fd g : Nat → FdT} : ∀ {n : Nat}, fRl n fd g → frC fd n = frC g n
  | 0, _ => rfl
  | n + 1, h => by
    have hn := h n (by omega)
    rw [frC, frC, fRl.fc (fun k hk => h k (by omega)), hn.2.2.2.1, hn.2.2.1]
theorem fRl.sp {fd g : Nat → FdT} : ∀ {n : Nat}, fRl n fd g → spT fd n = spT g n
  | 0, _ => rfl
  | n + 1, h => by
    have hn := h n (by omega)
    rw [spT, spT, fRl.sp (fun k hk => h k (by omega)), hn.2.2.1, hn.2.2.2.2.1]
theorem fRl.mc {fd g : Nat → FdT} : ∀ {n : Nat}, fRl n fd g → mcT fd n = mcT g n
  | 0, _ => rfl
  | n + 1, h => by
    have hn := h n (by omega)
    rw [mcT, mcT, fRl.mc (fun k hk => h k (by omega)), hn.2.2.2.2.1, hn.2.2.2.1, hn.2.2.1]
theorem zCo.newM {G : zGt} {M M' : Nat → Prop} {L L1 : List Nat} {F F1 : Nat → va_E} {a0 a1 a2 b4 b5 b6 b7 : Nat} {ad : Nat → Nat} {n now sl : Nat} {fd : Nat → FdT} (h : zCo G M L F a0 a1 a2 b4 b5 b6 b7 ad n now sl fd) (hL : ∀ b, b ∈ L → b ∈ L1) (hT : ∀ b, b ∈ L1 → b ≠ G.2.2.2.2.1) (hk : ∀ b, b ∈ L → F1 b = F b) (hM : ∀ b, M' b → b ∉ L) : zCl G M' L1 F1 a0 n now sl fd := by
  obtain ⟨⟨l0, l1, l2, l4, l5, l6, l7⟩, h2, h3, h4, h5, h6, h7, h8, -⟩ := h
  have nm : ∀ b, b ∈ L → ¬ M' b := fun b hb q => hM b q hb
  refine ⟨a1, a2, b4, b5, b6, b7, ad, ⟨hL _ l0, hL _ l1, hL _ l2, hL _ l4, hL _ l5, hL _ l6, hL _ l7⟩, (hk _ l0).trans h2, ?_, ?_, h5, fun k q => ⟨hL _ (h6 k q).1, (hk _ (h6 k q).1).trans (h6 k q).2.1, (h6 k q).2.2.1, nm _ (h6 k q).1⟩, h7, h8, ⟨nm _ l0, nm _ l1, nm _ l2, nm _ l4, nm _ l5, nm _ l6, nm _ l7⟩⟩
  · obtain ⟨mo, ea, nn, fe, g1, g2, g3, g4⟩ := h3
    rcases g2 with ⟨q0, q1⟩ | ⟨q1, q2, q3⟩
    · exact ⟨mo, ea, nn, fe, (hk _ l1).trans g1, Or.inl ⟨q0, q1⟩, g3, fun q => absurd q1 (hT _ q)⟩
    · exact ⟨mo, ea, nn, fe, (hk _ l1).trans g1, Or.inr ⟨hL _ q1, (hk _ q1).trans q2, q3⟩, g3, fun _ => nm _ q1⟩
  · obtain ⟨f4, f5, f6, f7, cnt, sf, nl, bs, bt, bh, g1, ⟨g4, g5, g6, g7⟩, g8⟩ := h4
    exact ⟨f4, f5, f6, f7, cnt, sf, nl, bs, bt, bh, (hk _ l2).trans g1, ⟨(hk _ l4).trans g4, (hk _ l5).trans g5, (hk _ l6).trans g6, (hk _ l7).trans g7⟩, g8⟩
