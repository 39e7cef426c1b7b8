-- numbers of a feeder
def tkV (mw of co : Nat) : Nat := if of = 0 then mw * (100 + co) / 100 else 0
def crV (th : Nat) : Nat := if th ≤ 10 then 10 * th else 100
def rsV (mw of th co : Nat) : Nat := if of = 0 then mw * (100 + co) / 100 else mw * (100 + crV th) / 100
theorem crV_le (th : Nat) : crV th ≤ 100 := by
  unfold crV; split <;> omega
theorem crV_min {th : Nat} (h : th ≤ 60000) : (if nI (10 * th) < nI 100 then nI (10 * th) else nI 100) = nI (crV th) := by
  unfold crV
  by_cases c : 10 * th < 100
  · rw [if_pos ((nI_ltI (by omega) (by decide)).mpr c), if_pos (by omega)]
  · rw [if_neg (fun q => c ((nI_ltI (by omega) (by decide)).mp q))]
    by_cases d : th ≤ 10
    · rw [if_pos d, show 10 * th = 100 by omega]
    · rw [if_neg d]
theorem mx_sub {a b : Nat} (ha : a ≤ 1000) (hb : b ≤ 2000) : (if nI 0 < nI a - nI b then nI a - nI b else nI 0) = nI (a - b) := by
  by_cases c : b < a
  · rw [pk_sub (a := a) (b := b) (by omega), if_pos ((nI_ltI (by decide) (by omega)).mpr (by omega))]
  · have e : (nI a - nI b).toInt = (a : Int) - b := pk_sub_toInt (by omega) (by omega)
    rw [if_neg (fun q => by
      have := (zi_lt (A := 0) (by decide) e).mp q
      omega), show a - b = 0 by omega]
