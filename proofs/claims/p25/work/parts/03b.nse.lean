section ZBN
variable {p : Program} {l : Launch} {e : Env} {R : Room} {s : State} {m : MethodId} {args : Array Value} {below : List Frame} {meth : Method} {c : Code} {cc : ByteArray} {nL : Nat} {Ts : List Cond} {own : String} {ret : Option FieldType} {G : zGt} {A : Nat → Prop} {Q : State → Prop} {ce sl : Nat} {L : List Nat} {F : Nat → va_E} {pc : Nat} {lv : List (Nat × Value)} {st : List Value}
variable {mc ms : Nat} {post : zPt} {px : zPx}
theorem z_throwN (C : zC p l s m args meth c cc nL Ts own ret G A) {text : String} {ik is ic : Nat} (ho : own = RX2) (hk : Cond.classLink own ik "java/util/NoSuchElementException" ∈ Ts) (hini : Cond.initialized "java/util/NoSuchElementException" ∈ Ts) (hstr : (is, text) ∈ zStrs)
    (hat : ∀ w ∈ (zx_at own ic).filter goodWord, w ∈ Ts) (hbad : ∀ w ∈ (zx_at own ic).filter (fun w => !goodWord w), w ∈ zBad "java/util/NoSuchElementException") (hcst : ("java/util/NoSuchElementException", "java/util/NoSuchElementException") ∈ zCasts)
    (hgood : ∀ w ∈ Cond.classLink own ik "java/util/NoSuchElementException" :: Cond.initialized "java/util/NoSuchElementException" :: zx_at own ic, vx_ot w = true)
    (d0 : decode cc pc = .ok (.new ik, 3)) (d3 : decode cc (pc + 3) = .ok (.dup, 1)) (d4 : decode cc (pc + 4) = .ok (.ldc is, 2)) (d6 : decode cc (pc + 6) = .ok (.invokespecial ic, 3)) (d9 : decode cc (pc + 9) = .ok (.athrow, 1))
    (hout : ∀ x ∈ c.exceptionTable.toList, False) (hRf : 5 < R.frames) (hRl : (st.map fun v => v.category).sum + 82 ≤ R.locals) (hRc : ce + 1 ≤ R.cells) (hRs : sl + 6 ≤ R.slots) (hc : ce + 1 ≤ mc) (hs : sl + 6 ≤ ms) (h : px "java/util/NoSuchElementException" L F) : zW p l e R s m args below meth c nL G A (vx_MQ below (zQ G post A) (zE G px A) args s mc ms A) ce sl L F pc lv st := by
  intro H locs ls hP hD hS hl
  obtain ⟨sa, hsa⟩ := C.2.2.2.2.1.2.1 _ hstr
  subst ho
  have hb9 : ∀ w ∈ zBad "java/util/NoSuchElementException", w.before args s = true := by
    intro w hw
    rcases List.mem_cons.mp hw with rfl | hw
    · exact va_Nw.use rfl (C.2.2.2.2.1.2.2.2.2.1 _ hcst)
    · obtain ⟨q, hq, rfl⟩ := List.mem_map.mp hw
      exact va_Nw.use rfl (C.2.2.2.2.1.2.2.2.2.2.2.2.2.2 q hq)
  refine zx_throw C.1.1 C.1.2.1 C.2.2.2.2.2.2 C.1.2.2.2.1 (C.1.2.2.2.2 _ hk) (C.1.2.2.2.2 _ hini) hsa (vx_hat (fun w hw => C.1.2.2.2.2 w (hat w hw)) hbad hb9) hgood C.2.2.2.2.1.1.1 C.2.2.2.2.1.1.2.1 hS (hl.1.trans C.1.2.2.1.symm) d0 d3 d4 d6 d9 (fun x hx => (hout x hx).elim) hRf hRl hRc hRs C.2.2.1 ?_ hS.2.2 hc hs
  intro t hvm hz hk9
  refine ⟨⟨L, F, h, hP.kept (fun k q hq => hk9 _ ((hP k q hq).lt)), hD⟩, ?_⟩
  exact ⟨Nat.le_trans hS.1 hz, fun q h1 h2 => by rw [hk9 q (Nat.lt_of_lt_of_le h1 hS.1)]; exact hS.2.1 q h1 h2⟩
end ZBN
