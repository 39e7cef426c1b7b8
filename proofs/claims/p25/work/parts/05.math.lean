-- numbers of a feeder
def tkV (mw of co : Nat) : Nat := if of = 0 then mw * (100 + co) / 100 else 0
def crV (th : Nat) : Nat := if th ≤ 10 then 10 * th else 100
def rsV (mw of th co : Nat) : Nat := if of = 0 then mw * (100 + co) / 100 else mw * (100 + crV th) / 100
theorem crV_le (th : Nat) : crV th ≤ 100 := by
  unfold crV; split <;> omega
theorem crV_min {th : Nat} (h : th ≤ 60000) : (if nI (10 * th) < nI 100 then nI (10 * th) else nI 100) = nI (crV th) := by
  unfold crV
  by_cases c : 10 * th < 100
  · rw [if_pos ((nI_ltI (by omega) (by decide)).mpr c), if_pos (by omega)]
  · rw [if_neg (fun q => c ((nI_ltI (by omega) (by decide)).mp q))]
    by_cases d : th ≤ 10
    · rw [if_pos d, show 10 * th = 100 by omega]
    · rw [if_neg d]
theorem mx_sub {a b : Nat} (ha : a ≤ 1000) (hb : b ≤ 2000) : (if nI 0 < nI a - nI b then nI a - nI b else nI 0) = nI (a - b) := by
  by_cases c : b < a
  · rw [pk_sub (a := a) (b := b) (by omega), if_pos ((nI_ltI (by decide) (by omega)).mpr (by omega))]
  · have e : (nI a - nI b).toInt = (a : Int) - b := pk_sub_toInt (by omega) (by omega)
    rw [if_neg (fun q => by
      have := (zi_lt (A := 0) (by decide) e).mp q
      omega), show a - b = 0 by omega]
-- the search: keys, weighing, walking
def keyV (nl t h s : Nat) : Nat := if t ≤ nl then (h * 1048576 + t) * 4096 + s else 4503599627370496 + ((t * 1048576 + h) * 4096 + s)
abbrev Tri : Type := Nat × Nat × Nat
def wgV (nl : Nat) (x b : Tri) : Tri := if b.1 = 0 ∨ keyV nl x.2.1 x.2.2 x.1 < keyV nl b.2.1 b.2.2 b.1 then x else b
def smV (tk : Nat → Nat) : Nat → Nat
  | 0 => 0
  | n + 1 => smV tk n + tk n
def adV (x y : Tri) : Tri := (x.1 + y.1, x.2.1 + y.2.1, x.2.2 + y.2.2)
def elV (nu tk hr : Nat → Nat) (i : Nat) : Tri := (2 ^ nu i, tk i, hr i)
def wkV (nl sf : Nat) (nu tk hr : Nat → Nat) : Nat → Tri → Tri → Tri
  | 0, x, b => if sf ≤ x.2.1 then wgV nl x b else b
  | o + 1, x, b => if sf ≤ x.2.1 then wgV nl x b else if x.2.1 + smV tk (o + 1) < sf then b else wkV nl sf nu tk hr o (adV x (elV nu tk hr o)) (wkV nl sf nu tk hr o x b)
theorem wkV_meet {nl sf : Nat} {nu tk hr : Nat → Nat} {o : Nat} {x b : Tri} (h : sf ≤ x.2.1) : wkV nl sf nu tk hr o x b = wgV nl x b := by
  cases o with
  | zero => rw [wkV, if_pos h]
  | succ o => rw [wkV, if_pos h]
theorem wkV_cut {nl sf : Nat} {nu tk hr : Nat → Nat} {o : Nat} {x b : Tri} (h : ¬ sf ≤ x.2.1) (h2 : o = 0 ∨ x.2.1 + smV tk o < sf) : wkV nl sf nu tk hr o x b = b := by
  cases o with
  | zero => rw [wkV, if_neg h]
  | succ o => rw [wkV, if_neg h, if_pos (by rcases h2 with h2 | h2; exact absurd h2 (by omega); exact h2)]
theorem wkV_go {nl sf : Nat} {nu tk hr : Nat → Nat} {o : Nat} {x b : Tri} (h : ¬ sf ≤ x.2.1) (ho : 0 < o) (h2 : ¬ x.2.1 + smV tk o < sf) : wkV nl sf nu tk hr o x b = wkV nl sf nu tk hr (o - 1) (adV x (elV nu tk hr (o - 1))) (wkV nl sf nu tk hr (o - 1) x b) := by
  cases o with
  | zero => exact absurd ho (Nat.lt_irrefl _)
  | succ o => rw [wkV, if_neg h, if_neg h2]; rfl
def bdV (b : Tri) : Prop := b.1 < 4096 ∧ b.2.1 < 1048576 ∧ b.2.2 < 1048576
theorem bdV_wg {nl : Nat} {x b : Tri} (hx : bdV x) (hb : bdV b) : bdV (wgV nl x b) := by
  unfold wgV; split
  · exact hx
  · exact hb
-- what the walk asks of the offered: o of them, from a set s
def wkOk (nu tk hr : Nat → Nat) (cnt : Nat) : Prop := cnt ≤ 12 ∧ (∀ i, i < cnt → nu i < 12 ∧ tk i ≤ 1998 ∧ hr i ≤ 60000) ∧ ∀ i j, i < j → j < cnt → nu i < nu j
def xOk (nu : Nat → Nat) (o : Nat) (x : Tri) : Prop := (∀ i, i < o → 2 ^ (nu i + 1) ∣ x.1) ∧ x.1 < 4096 ∧ x.2.1 + o * 1998 ≤ 24000 ∧ x.2.2 + o * 60000 ≤ 720000
theorem xOk.bd {nu : Nat → Nat} {o : Nat} {x : Tri} (h : xOk nu o x) : bdV x := by
  obtain ⟨h1, h2, h3, h4⟩ := h
  refine ⟨h2, ?_, ?_⟩ <;> omega
theorem xOk.stay {nu : Nat → Nat} {o : Nat} {x : Tri} (h : xOk nu o x) : xOk nu (o - 1) x := by
  obtain ⟨h1, h2, h3, h4⟩ := h
  refine ⟨fun i hi => h1 i (by omega), h2, ?_, ?_⟩
  · have : (o - 1) * 1998 ≤ o * 1998 := Nat.mul_le_mul_right _ (by omega)
    exact Nat.le_trans (Nat.add_le_add_left this _) h3
  · have : (o - 1) * 60000 ≤ o * 60000 := Nat.mul_le_mul_right _ (by omega)
    exact Nat.le_trans (Nat.add_le_add_left this _) h4
theorem or_pow {s k : Nat} (h : 2 ^ (k + 1) ∣ s) : s ||| 2 ^ k = s + 2 ^ k := by
  obtain ⟨q, rfl⟩ := h
  exact (Nat.two_pow_add_eq_or_of_lt (Nat.pow_lt_pow_right (by decide) (Nat.lt_succ_self k)) q).symm
theorem xOk.go {nu tk hr : Nat → Nat} {cnt o : Nat} {x : Tri} (hk : wkOk nu tk hr cnt) (ho : 0 < o) (hc : o ≤ cnt) (h : xOk nu o x) : xOk nu (o - 1) (adV x (elV nu tk hr (o - 1))) := by
  have h1 := h.1 (o - 1) (by omega)
  have hb := hk.2.1 (o - 1) (by omega)
  refine ⟨fun i hi => ?_, ?_, ?_, ?_⟩
  · have hlt : nu i < nu (o - 1) := hk.2.2 i (o - 1) hi (by omega)
    exact Nat.dvd_add (h.1 i (by omega)) (Nat.pow_dvd_pow 2 hlt)
  · show x.1 + 2 ^ nu (o - 1) < 4096
    have hlt := h.2.1
    have e : (4096 : Nat) = 2 ^ (nu (o - 1) + 1) * 2 ^ (11 - nu (o - 1)) := by
      rw [← Nat.pow_add, show nu (o - 1) + 1 + (11 - nu (o - 1)) = 12 by omega]
    obtain ⟨q, hq⟩ := h1
    have hq2 : q < 2 ^ (11 - nu (o - 1)) := by
      rw [hq, e] at hlt
      exact Nat.lt_of_mul_lt_mul_left hlt
    have hp : 2 ^ (nu (o - 1) + 1) * (q + 1) ≤ 4096 := by rw [e]; exact Nat.mul_le_mul_left _ hq2
    rw [Nat.mul_succ, ← hq, Nat.pow_succ] at hp
    have : 0 < 2 ^ nu (o - 1) := Nat.pow_pos (by decide)
    omega
  · have := h.2.2.1
    show x.2.1 + tk (o - 1) + (o - 1) * 1998 ≤ 24000
    omega
  · have := h.2.2.2
    show x.2.2 + hr (o - 1) + (o - 1) * 60000 ≤ 720000
    omega
theorem bdV_wk {nl sf : Nat} {nu tk hr : Nat → Nat} {cnt : Nat} (hk : wkOk nu tk hr cnt) : ∀ (o : Nat) (x b : Tri), o ≤ cnt → xOk nu o x → bdV b → bdV (wkV nl sf nu tk hr o x b) := by
  intro o
  induction o with
  | zero =>
    intro x b _ hx hb
    rw [wkV]; split
    · exact bdV_wg hx.bd hb
    · exact hb
  | succ o ih =>
    intro x b ho hx hb
    rw [wkV]; split
    · exact bdV_wg hx.bd hb
    · split
      · exact hb
      · exact ih _ _ (by omega) (hx.go hk (Nat.succ_pos o) ho) (ih _ _ (by omega) hx.stay hb)
theorem smV_le {tk : Nat → Nat} {B : Nat} : ∀ {n : Nat}, (∀ i, i < n → tk i ≤ B) → smV tk n ≤ n * B
  | 0, _ => by simp [smV]
  | n + 1, h => by
    have h1 := smV_le (n := n) (fun i hi => h i (by omega))
    have h2 := h n (by omega)
    rw [smV, Nat.succ_mul]; omega
theorem shl1 {n : Nat} (h : n < 31) : nI 1 <<< (nI n &&& 31) = nI (2 ^ n) := by
  have e : ∀ k, k < 31 → (nI 1 <<< (nI k &&& 31)) = nI (2 ^ k) := by decide +kernel
  exact e n h
theorem nI_or (a b : Nat) : nI a ||| nI b = nI (a ||| b) := by
  apply Int32.toBitVec_inj.1
  show BitVec.ofNat 32 a ||| BitVec.ofNat 32 b = BitVec.ofNat 32 (a ||| b)
  apply BitVec.eq_of_getLsbD_eq
  intro i hi
  simp [hi]
-- the search by listing
def bitV (s k : Nat) : Nat := s / 2 ^ k % 2
theorem bitV_le (s k : Nat) : bitV s k ≤ 1 := by unfold bitV; omega
def trV (nu tk hr : Nat → Nat) (c : Nat) : Nat → Tri
  | 0 => (0, 0, 0)
  | i + 1 => if bitV c i = 1 then adV (trV nu tk hr c i) (elV nu tk hr i) else trV nu tk hr c i
def lsV (nl sf : Nat) (nu tk hr : Nat → Nat) (cnt c : Nat) (b : Tri) : Tri := if sf ≤ (trV nu tk hr c cnt).2.1 then wgV nl (trV nu tk hr c cnt) b else b
def blV (nl sf : Nat) (nu tk hr : Nat → Nat) (cnt : Nat) (b : Tri) : Nat → Tri
  | 0 => b
  | j + 1 => lsV nl sf nu tk hr cnt (j + 1) (blV nl sf nu tk hr cnt b j)
theorem trV_lt {nu tk hr : Nat → Nat} {cnt c : Nat} (hk : wkOk nu tk hr cnt) : ∀ (i m : Nat), i ≤ cnt → (∀ j, j < i → nu j < m) → (trV nu tk hr c i).1 < 2 ^ m := by
  intro i
  induction i with
  | zero => intro m _ _; exact Nat.pow_pos (by decide)
  | succ i ih =>
    intro m hi hm
    have h1 := ih (nu i) (by omega) (fun j hj => hk.2.2 j i hj (by omega))
    have h2 : 2 ^ (nu i + 1) ≤ 2 ^ m := Nat.pow_le_pow_right (by decide) (hm i (by omega))
    rw [Nat.pow_succ] at h2
    rw [trV]; split
    · show (trV nu tk hr c i).1 + 2 ^ nu i < 2 ^ m
      omega
    · omega
set_option maxRecDepth 100000 in
theorem trV_bd {nu tk hr : Nat → Nat} {cnt c : Nat} (hk : wkOk nu tk hr cnt) : ∀ (i : Nat), i ≤ cnt → (trV nu tk hr c i).2.1 ≤ i * 1998 ∧ (trV nu tk hr c i).2.2 ≤ i * 60000 := by
  intro i
  induction i with
  | zero => intro _; exact ⟨Nat.le_refl _, Nat.le_refl _⟩
  | succ i ih =>
    intro hi
    have h1 := ih (by omega)
    have h2 := hk.2.1 i (by omega)
    rw [trV]; split
    · refine ⟨?_, ?_⟩
      · show (trV nu tk hr c i).2.1 + tk i ≤ _
        omega
      · show (trV nu tk hr c i).2.2 + hr i ≤ _
        omega
    · omega
theorem trV_ok {nu tk hr : Nat → Nat} {cnt c : Nat} (hk : wkOk nu tk hr cnt) : bdV (trV nu tk hr c cnt) := by
  have h1 := trV_lt (c := c) hk cnt 12 (Nat.le_refl _) (fun j hj => (hk.2.1 j hj).1)
  have h2 := trV_bd (c := c) hk cnt (Nat.le_refl _)
  have h3 := hk.1
  refine ⟨h1, ?_, ?_⟩
  · have : cnt * 1998 ≤ 12 * 1998 := Nat.mul_le_mul_right _ h3
    omega
  · have : cnt * 60000 ≤ 12 * 60000 := Nat.mul_le_mul_right _ h3
    omega
theorem bdV_ls {nl sf : Nat} {nu tk hr : Nat → Nat} {cnt c : Nat} {b : Tri} (hk : wkOk nu tk hr cnt) (hb : bdV b) : bdV (lsV nl sf nu tk hr cnt c b) := by
  unfold lsV; split
  · exact bdV_wg (trV_ok hk) hb
  · exact hb
theorem bdV_bl {nl sf : Nat} {nu tk hr : Nat → Nat} {cnt : Nat} {b : Tri} (hk : wkOk nu tk hr cnt) (hb : bdV b) : ∀ j, bdV (blV nl sf nu tk hr cnt b j)
  | 0 => hb
  | j + 1 => bdV_ls hk (bdV_bl hk hb j)
theorem or_low {s k : Nat} (h : s < 2 ^ k) : s ||| 2 ^ k = s + 2 ^ k := by
  have := Nat.two_pow_add_eq_or_of_lt h 1
  rw [Nat.mul_one] at this
  rw [Nat.or_comm, ← this, Nat.add_comm]
theorem sh_amt : ∀ n, n < 32 → ((nI n &&& 31).toBitVec.smod 32).toNat = n := by decide +kernel
theorem bit_of {s k : Nat} (hs : s < 2147483648) (hk : k < 31) : nI s >>> (nI k &&& 31) = nI (s / 2 ^ k) := pk_shrN (by omega) _ k (sh_amt k (by omega))
theorem bit_and {s : Nat} (k : Nat) (hs : s < 2147483648) : nI (s / 2 ^ k) &&& nI 1 = nI (bitV s k) :=
  pk_andN (Nat.lt_of_le_of_lt (Nat.div_le_self _ _) (by omega)) 1 (by decide)
