theorem sT_0 (g : Nat → FdT) : ∀ n, sT g 0 n = 0
  | 0 => rfl
  | n + 1 => by rw [sT, sT_0 g n]; unfold bitV; rw [Nat.zero_div]; rfl
theorem fRs_pos {now : Nat} {r : FdT} (h : fOk now r) : 1 ≤ fRs r := by
  obtain ⟨h1, h2, h3, h4, h5, h6, h7, h8⟩ := h
  unfold fRs rsV
  split
  · have : 1 * 100 ≤ fMw r * (100 + fCo r) := Nat.mul_le_mul h2 (by omega)
    omega
  · have : 1 * 100 ≤ fMw r * (100 + crV (fTh r)) := Nat.mul_le_mul h2 (by omega)
    omega
theorem key_mod (nl t h s : Nat) : keyV nl t h s % 4096 = s % 4096 := by
  unfold keyV; split <;> omega
theorem isB_one {n : Nat} {g : Nat → FdT} {sl sf a b : Nat} (hn : n ≤ 12) (h1 : 1 ≤ sf) (ha : isB n g sl sf a) (hb : isB n g sl sf b) : a = b := by
  have hp : 2 ^ n ≤ 2 ^ 12 := Nat.pow_le_pow_right (by decide) hn
  rw [show (2 : Nat) ^ 12 = 4096 from rfl] at hp
  rcases ha with ⟨a1, a2⟩ | ⟨a1, a2⟩ <;> rcases hb with ⟨b1, b2⟩ | ⟨b1, b2⟩
  · rw [a1, b1]
  · exact absurd b1 (a2 b)
  · exact absurd a1 (b2 a)
  · have e : kyS n g (sf + sl) a = kyS n g (sf + sl) b := Nat.le_antisymm (a2 b b1) (b2 a a1)
    have e1 := key_mod (sf + sl) (sT g a n) (sH g a n) a
    have e2 := key_mod (sf + sl) (sT g b n) (sH g b n) b
    have e3 : a % 4096 = b % 4096 := by rw [← e1, ← e2]; exact congrArg (· % 4096) e
    have := a1.1
    have := b1.1
    omega
theorem isB_free {n : Nat} {g : Nat → FdT} {sl sf b : Nat} (hb : isB n g sl sf b) {k : Nat} (hk : k < n) (h : bitV b k = 1) : fOf (g k) = 0 ∧ fCr (g k) = 0 := by
  rcases hb with ⟨rfl, -⟩ | ⟨h1, -⟩
  · unfold bitV at h; rw [Nat.zero_div] at h; exact absurd h (by decide)
  · exact h1.2.1 k hk h
theorem zCo.cl {G : zGt} {M : Nat → Prop} {L : List Nat} {F : Nat → va_E} {a0 a1 a2 b4 b5 b6 b7 : Nat} {ad : Nat → Nat} {n now sl : Nat} {fd : Nat → FdT} (h : zCo G M L F a0 a1 a2 b4 b5 b6 b7 ad n now sl fd) : zCl G M L F a0 n now sl fd := ⟨_, _, _, _, _, _, _, h⟩
-- small words
theorem nIe {a b : Nat} (ha : a < 2147483648) (hb : b < 2147483648) (h : nI a = nI b) : a = b := (nI_eq (by omega) (by omega)).mp h
theorem zIx_in {n k : Nat} {x : Int32} (hn : n ≤ 12) (hk : k < n) (hx : x = nI k) : zIx n x := by
  have h := nI_toInt (n := k) (by omega)
  unfold zIx
  rw [hx, h]
  omega
theorem zIn_in {lo hi j : Nat} {v : Int32} (h9 : hi < 2147483648) (h1 : lo ≤ j) (h2 : j ≤ hi) (hv : v = nI j) : zIn lo hi v := by
  have h := nI_toInt (n := j) (by omega)
  unfold zIn
  rw [hv, h]
  omega
theorem z_inA {p : Program} {l : Launch} {e : Env} {R : Room} {s : State} {m : MethodId} {args : Array Value} {below : List Frame} {meth : Method} {c : Code} {nL : Nat} {G : zGt} {A : Nat → Prop} {Q : State → Prop} {ce sl : Nat} {L : List Nat} {F : Nat → va_E} {pc : Nat} {lv : List (Nat × Value)} {st : List Value} (kk : (∀ q ∈ L, A q) → zW p l e R s m args below meth c nL G A Q ce sl L F pc lv st) : zW p l e R s m args below meth c nL G A Q ce sl L F pc lv st := fun H locs ls hP hD hS hl => kk (zD_in hD) H locs ls hP hD hS hl
