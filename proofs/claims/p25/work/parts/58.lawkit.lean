def R_law : String := "ShedwheelLaw"
def lw_P (b : Addr) (xs : List Int32) (args : Array Value) (s : State) : Prop := args = #[.ref b] ∧ s.IntsAt b xs ∧ xs.length ≤ 260 ∧ (Jvm.Cond.and given_1 narrow_1).before args s = true
def lw_Q (_ : Array Value) (s : State) (o : Outcome) (t : State) : Prop := o = .returned (some (.int 1)) ∧ Framed s o t [] 600130 7301080
def lw_Z (below : List Frame) (a : Array Value) (s : State) : State → Prop := fun t => ∃ o, t.status = .running ∧ Ended t below o ∧ lw_Q a s o t
/-- the law's own end, with 1 on the stack, nothing written that was there before, its room as the claim has it -/
theorem lw_ret {p : Program} {l : Launch} {e : Env} {s : State} {m : MethodId} {below : List Frame} {meth : Method} {c : Code} {b : Nat} (hx : p.tables.exec = Jvm.exec) (hb : c.code = code) (hr : meth.sig.returnType = ret) (hlocks : meth.locks = false) {pc : Nat} {H : Heap} {ls : Array Slot} (hdg : decode code pc = .ok (.ireturn, 1)) : W p l e room_1 s m #[Value.ref b] below meth c H [] 600130 7301080 (lw_Z below #[Value.ref b] s) (F0 m pc ls [.int 1]) := by
  intro T hT X
  obtain ⟨fs, hret, hrun, hended, hW, hframe⟩ := X.leave (v := some (.int 1)) (hlocks := hlocks) (fun h => by rw [hr] at h; cases h)
  have hmeth' : T.vm.method? m = some meth := X.method'
  refine ⟨T.setFrames fs, ?_, .returned (some (.int 1)), hrun, hended, rfl, ⟨_, rfl⟩, hW, hframe⟩
  jvm_step X.here [X.here.top, hx, hb, hdg, hmeth', hr, ret, narrow_b1]
  (try refine ⟨rfl, ?_⟩); (try refine ⟨rfl, ?_⟩)
  first | (intro acts; rw [hret _ acts rfl rfl rfl]) | rw [hret _ _ rfl rfl rfl]
  exact Steps.refl _
/-- what holds at the law's entry: the machine, the code, the tables' words (any of lw_tbl by 'hts w (by decide +kernel)'), the script of L ints xs at the cell b, what the Statement gives of the start (any of its parts by flat_of_before) -/
def lw_At (p : Program) (s : State) (m : MethodId) (meth : Method) (c : Code) (b L : Nat) (xs : Nat → Int32) : Prop :=
  p.tables.exec = Jvm.exec ∧ c.code = code ∧ meth.sig.returnType = ret ∧ c.maxLocals = 8 ∧ s.vm.findClass R_law = some m.cls ∧ (∀ w ∈ lw_tbl, w.before #[Value.ref b] s = true) ∧ va_X b L xs s s.heap ∧ b < s.heap.size ∧ meth.locks = false ∧ (Jvm.Cond.and given_1 narrow_1).before #[Value.ref b] s = true
abbrev zNo : Nat → Prop := fun _ => False
theorem z_lret {p : Program} {l : Launch} {e : Env} {s : State} {m : MethodId} {below : List Frame} {meth : Method} {c : Code} {Ts : List Cond} {own : String} {G : zGt} {b ce sl pc : Nat} {L : List Nat} {F : Nat → va_E} {lv : List (Nat × Value)} (C : zC p l s m #[Value.ref b] meth c code 8 Ts own ret G (fun q => s.heap.size ≤ q)) (d : decode code pc = .ok (.ireturn, 1)) (h1 : ce ≤ 600130) (h2 : sl ≤ 7301080) : zW p l e room_1 s m #[Value.ref b] below meth c 8 G (fun q => s.heap.size ≤ q) (lw_Z below #[Value.ref b] s) ce sl L F pc lv [.int (nI 1)] := by
  intro H locs ls hP hD hS hl
  refine va_forget hS.2.2 ?_
  refine W.widen (k := 600130) (n := 7301080) h1 h2 ?_
  exact lw_ret C.1.1 C.1.2.1 C.2.1 C.2.2.1 d
-- what a piece of the law's loop stands on
def zLX (p : Program) (l : Launch) (s : State) (m : MethodId) (args : Array Value) (meth : Method) (c : Code) (b N : Nat) (xs : Nat → Int32) (G : zGt) (A : Nat → Prop) : Prop := zC p l s m args meth c code 8 wsL_law RL ret G A ∧ va_X b N xs s s.heap ∧ b < s.heap.size ∧ ¬ A b ∧ N ≤ 260
theorem upF_at (fd : Nat → FdT) (k : Nat) (r : FdT) : upF fd k r k = r := by
  unfold upF; rw [if_pos rfl]
theorem upF_ne (fd : Nat → FdT) {k j : Nat} (r : FdT) (h : ¬ j = k) : upF fd k r j = fd j := by
  unfold upF; rw [if_neg h]
theorem cw_up {fd : Nat → FdT} {n : Nat} {r : FdT} : bsV (fun j => fCr (upF fd n r j)) n = cW fd n := bsV_cong (fun j hj => by
  show fCr (upF fd n r j) = fCr (fd j)
  rw [upF_ne fd r (by omega)])
theorem cw_hit {fd : Nat → FdT} {n : Nat} {r : FdT} (h : fCr r = 1) : nI (cW fd n) ||| nI (2 ^ n) = nI (cW (upF fd n r) (n + 1)) := by
  have e := or_hit (f := fun j => fCr (upF fd n r j)) (k := n) (by show fCr (upF fd n r n) = 1; rw [upF_at]; exact h)
  rw [cw_up] at e
  exact e
theorem cw_miss {fd : Nat → FdT} {n : Nat} {r : FdT} (h : ¬ fCr r = 1) : nI (cW fd n) ||| nI 0 = nI (cW (upF fd n r) (n + 1)) := by
  have e := or_miss (f := fun j => fCr (upF fd n r j)) (k := n) (by show ¬ fCr (upF fd n r n) = 1; rw [upF_at]; exact h)
  rw [cw_up] at e
  exact e
theorem fZ_new {fd : Nat → FdT} {n : Nat} {r : FdT} (hz : fZ n fd) (h : fOf r = 0) : fZ (n + 1) (upF fd n r) := by
  intro j hj
  by_cases c : j = n
  · subst c
    rw [upF_at]
    intro q
    omega
  · rw [upF_ne fd r c]
    exact hz j (by omega)
theorem fZ_on {fd : Nat → FdT} {n k : Nat} (hz : fZ n fd) : fZ n (upF fd k (fOn (fd k))) := by
  intro j hj
  by_cases c : j = k
  · subst c
    rw [upF_at]
    exact fun q => absurd (show (0 : Nat) = 1 from q) (by decide)
  · rw [upF_ne fd _ c]
    exact hz j hj
theorem cW_on {fd : Nat → FdT} {n k : Nat} : cW (upF fd k (fOn (fd k))) n = cW fd n := bsV_cong (fun j hj => by
  show fCr (upF fd k (fOn (fd k)) j) = fCr (fd j)
  by_cases c : j = k
  · subst c
    rw [upF_at]; rfl
  · rw [upF_ne fd _ c])
