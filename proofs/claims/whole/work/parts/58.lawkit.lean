def R_law : String := "ShedwheelLaw"
def lw_P (b : Addr) (xs : List Int32) (args : Array Value) (s : State) : Prop := args = #[.ref b] ∧ s.IntsAt b xs ∧ xs.length ≤ 2048 ∧ (Jvm.Cond.and given_1 narrow_1).before args s = true
def lw_Q (_ : Array Value) (s : State) (o : Outcome) (t : State) : Prop := o = .returned (some (.int 1)) ∧ Framed s o t [] 601024 7293034
def lw_Z (below : List Frame) (a : Array Value) (s : State) : State → Prop := fun t => ∃ o, t.status = .running ∧ Ended t below o ∧ lw_Q a s o t
/-- the law's own end, with 1 on the stack, nothing written that was there before, its room as the claim has it -/
theorem lw_ret {p : Program} {l : Launch} {e : Env} {s : State} {m : MethodId} {below : List Frame} {meth : Method} {c : Code} {b : Nat} (hx : p.tables.exec = Jvm.exec) (hb : c.code = code) (hr : meth.sig.returnType = ret) (hlocks : meth.locks = false) {pc : Nat} {H : Heap} {ls : Array Slot} (hdg : decode code pc = .ok (.ireturn, 1)) : W p l e room_1 s m #[Value.ref b] below meth c H [] 601024 7293034 (lw_Z below #[Value.ref b] s) (F0 m pc ls [.int 1]) := by
  intro T hT X
  obtain ⟨fs, hret, hrun, hended, hW, hframe⟩ := X.leave (v := some (.int 1)) (hlocks := hlocks) (fun h => by rw [hr] at h; cases h)
  have hmeth' : T.vm.method? m = some meth := X.method'
  refine ⟨T.setFrames fs, ?_, .returned (some (.int 1)), hrun, hended, rfl, ⟨_, rfl⟩, hW, hframe⟩
  jvm_step X.here [X.here.top, hx, hb, hdg, hmeth', hr, ret, narrow_b1]
  (try refine ⟨rfl, ?_⟩); (try refine ⟨rfl, ?_⟩)
  first | (intro acts; rw [hret _ acts rfl rfl rfl]) | rw [hret _ _ rfl rfl rfl]
  exact Steps.refl _
/-- what holds at the law's entry: the machine, the code, the tables' words (any of lw_tbl by 'hts w (by decide +kernel)'), the script of L ints xs at the cell b, what the Statement gives of the start (any of its parts by flat_of_before) -/
def lw_At (p : Program) (s : State) (m : MethodId) (meth : Method) (c : Code) (b L : Nat) (xs : Nat → Int32) : Prop :=
  p.tables.exec = Jvm.exec ∧ c.code = code ∧ meth.sig.returnType = ret ∧ c.maxLocals = 7 ∧ s.vm.findClass R_law = some m.cls ∧ (∀ w ∈ lw_tbl, w.before #[Value.ref b] s = true) ∧ va_X b L xs s s.heap ∧ b < s.heap.size ∧ meth.locks = false ∧ (Jvm.Cond.and given_1 narrow_1).before #[Value.ref b] s = true
-- the law's own rows
section ZL
variable {p : Program} {l : Launch} {e : Env} {R : Room} {s : State} {m : MethodId} {args : Array Value} {below : List Frame} {meth : Method} {c : Code} {cc : ByteArray} {nL : Nat} {Ts : List Cond} {own : String} {ret9 : Option FieldType} {G : zGt} {A : Nat → Prop} {Q : State → Prop} {ce sl : Nat} {L : List Nat} {F : Nat → va_E} {pc : Nat} {lv : List (Nat × Value)} {st : List Value}
theorem z_sld (C : zC p l s m args meth c cc nL Ts own ret9 G A) {b N i : Nat} {xs : Nat → Int32} (hX : va_X b N xs s s.heap) (hbl : b < s.heap.size) (hbA : ¬ A b) (hi : i < N) (hN : N < 2147483648) (d : decode cc pc = .ok (.iaload, 1)) (kk : zW p l e R s m args below meth c nL G A Q ce sl L F (pc + 1) lv (.int (xs i) :: st)) : zW p l e R s m args below meth c nL G A Q ce sl L F pc lv (.int (nI i) :: .ref b :: st) := fun H locs ls hP hD hS hl => by
  refine va_sld C.1.1 C.1.2.1 hX hbl hbA hS (vp_in_nI hi (by omega)) d ?_
  rw [nI_clamp (by omega)]
  exact kk H locs ls hP hD hS hl
theorem z_slen (C : zC p l s m args meth c cc nL Ts own ret9 G A) {b N : Nat} {xs : Nat → Int32} (hX : va_X b N xs s s.heap) (hbl : b < s.heap.size) (hbA : ¬ A b) (d : decode cc pc = .ok (.arraylength, 1)) (kk : zW p l e R s m args below meth c nL G A Q ce sl L F (pc + 1) lv (.int (nI N) :: st)) : zW p l e R s m args below meth c nL G A Q ce sl L F pc lv (.ref b :: st) := fun H locs ls hP hD hS hl => va_slen C.1.1 C.1.2.1 hX hbl hbA hS d (kk H locs ls hP hD hS hl)
theorem z_tblIn (C : zC p l s m args meth c cc nL Ts own ret9 G A) {dflt lo hi : Int} {offs : Array Int} {len : Nat} {x : Int32} (i : Int) (off : Int) (tgt : Nat) (hx : x.toInt = i) (d : decode cc pc = .ok (.tableswitch dflt lo hi offs, len)) (h1 : ¬ i < lo) (h2 : ¬ hi < i) (ho : offs[(i - lo).toNat]? = some off) (ht : (pc : Int) + off = (tgt : Int)) (kk : zW p l e R s m args below meth c nL G A Q ce sl L F tgt lv st) : zW p l e R s m args below meth c nL G A Q ce sl L F pc lv (.int x :: st) := fun H locs ls hP hD hS hl => lv_tableIn C.1.1 C.1.2.1 d (by rw [hx]; exact h1) (by rw [hx]; exact h2) (by rw [hx]; exact ho) ht (kk H locs ls hP hD hS hl)
theorem z_tblOut (C : zC p l s m args meth c cc nL Ts own ret9 G A) {dflt lo hi : Int} {offs : Array Int} {len : Nat} {x : Int32} (tgt : Nat) (d : decode cc pc = .ok (.tableswitch dflt lo hi offs, len)) (h : x.toInt < lo ∨ hi < x.toInt) (ht : (pc : Int) + dflt = (tgt : Int)) (kk : zW p l e R s m args below meth c nL G A Q ce sl L F tgt lv st) : zW p l e R s m args below meth c nL G A Q ce sl L F pc lv (.int x :: st) := fun H locs ls hP hD hS hl => lv_tableOut C.1.1 C.1.2.1 d h ht (kk H locs ls hP hD hS hl)
end ZL
theorem z_lret {p : Program} {l : Launch} {e : Env} {s : State} {m : MethodId} {below : List Frame} {meth : Method} {c : Code} {Ts : List Cond} {own : String} {G : zGt} {b ce sl pc : Nat} {L : List Nat} {F : Nat → va_E} {lv : List (Nat × Value)} (C : zC p l s m #[Value.ref b] meth c code 7 Ts own ret G (fun q => s.heap.size ≤ q)) (d : decode code pc = .ok (.ireturn, 1)) (h1 : ce ≤ 601024) (h2 : sl ≤ 7293034) : zW p l e room_1 s m #[Value.ref b] below meth c 7 G (fun q => s.heap.size ≤ q) (lw_Z below #[Value.ref b] s) ce sl L F pc lv [.int (nI 1)] := by
  intro H locs ls hP hD hS hl
  refine va_forget hS.2.2 ?_
  refine W.widen (k := 601024) (n := 7293034) h1 h2 ?_
  exact lw_ret C.1.1 C.1.2.1 C.2.1 C.2.2.1 d
-- small words
theorem nIe {a b : Nat} (ha : a < 2147483648) (hb : b < 2147483648) (h : nI a = nI b) : a = b := (nI_eq (by omega) (by omega)).mp h
theorem zIx_in {n k : Nat} {x : Int32} (hn : n ≤ 12) (hk : k < n) (hx : x = nI k) : zIx n x := by
  have h := nI_toInt (n := k) (by omega)
  unfold zIx
  rw [hx, h]
  omega
theorem zIn_in {lo hi j : Nat} {v : Int32} (h9 : hi < 2147483648) (h1 : lo ≤ j) (h2 : j ≤ hi) (hv : v = nI j) : zIn lo hi v := by
  have h := nI_toInt (n := j) (by omega)
  unfold zIn
  rw [hv, h]
  omega
theorem nz_iff {k : Nat} (h : k ≤ 2) : nI k = 0 ↔ k = 0 := by
  constructor
  · intro q
    exact nIe (by omega) (by omega) (q.trans nI_0.symm)
  · intro q
    rw [q]; exact nI_0
theorem wr3 {rv : Option Value} {X0 X1 X2 : Prop} (h : (rv = some (.int (nI 0)) ∧ X0) ∨ (rv = some (.int (nI 1)) ∧ X1) ∨ (rv = some (.int (nI 2)) ∧ X2)) : ∃ k : Nat, k ≤ 2 ∧ rv = some (.int (nI k)) ∧ ((k = 0 ∧ X0) ∨ (k = 1 ∧ X1) ∨ (k = 2 ∧ X2)) := by
  rcases h with ⟨q, h⟩ | ⟨q, h⟩ | ⟨q, h⟩
  · exact ⟨0, by omega, q, Or.inl ⟨rfl, h⟩⟩
  · exact ⟨1, by omega, q, Or.inr (Or.inl ⟨rfl, h⟩)⟩
  · exact ⟨2, by omega, q, Or.inr (Or.inr ⟨rfl, h⟩)⟩
theorem wr2 {rv : Option Value} {X0 X1 : Prop} (h : (rv = some (.int (nI 0)) ∧ X0) ∨ (rv = some (.int (nI 1)) ∧ X1)) : ∃ k : Nat, k ≤ 2 ∧ rv = some (.int (nI k)) ∧ ((k = 0 ∧ X0) ∨ (k = 1 ∧ X1)) := by
  rcases h with ⟨q, h⟩ | ⟨q, h⟩
  · exact ⟨0, by omega, q, Or.inl ⟨rfl, h⟩⟩
  · exact ⟨1, by omega, q, Or.inr ⟨rfl, h⟩⟩
theorem lg_cmp_self (x : Int64) : lg_cmp x x = 0 := by simp [lg_cmp]
-- the state of the law's loop
def zMs (m0 c0 c1 c2 c3 c4 c5 c6 o0 : Nat) : Nat → Prop := fun b => b = m0 ∨ b = c0 ∨ b = c1 ∨ b = c2 ∨ b = c3 ∨ b = c4 ∨ b = c5 ∨ b = c6 ∨ b = o0
def zOt (G : zGt) (F : Nat → va_E) (o0 : Nat) : Prop := ∃ fo : Nat → Int64, F o0 = .inl (G.2.2.2.1, 1, .inr (.inl fo))
def zLI (G : zGt) (L : List Nat) (F : Nat → va_E) (a0 m0 c0 c1 c2 c3 c4 c5 c6 o0 n now sk : Nat) (fd g : Nat → FdT) : Prop :=
  zCl G (zMs m0 c0 c1 c2 c3 c4 c5 c6 o0) L F a0 n now sk fd ∧ (∃ thr : Nat, zMo G L F m0 c0 c1 c2 c3 c4 c5 c6 n now sk thr g) ∧ fRl n fd g ∧ o0 ∈ L ∧ zOt G F o0
def zAg (G : zGt) (L : List Nat) (F : Nat → va_E) (a0 m0 c0 c1 c2 c3 c4 c5 c6 o0 kk : Nat) (fo1 : Nat → Int64) (r : Int32) (now : Nat) : Prop :=
  ∃ (n9 now9 sk9 : Nat) (fd9 g9 : Nat → FdT), zCl G (zMs m0 c0 c1 c2 c3 c4 c5 c6 o0) L F a0 n9 now9 sk9 fd9 ∧ zMo G L F m0 c0 c1 c2 c3 c4 c5 c6 n9 now9 sk9 kk g9 ∧ fRl n9 fd9 g9 ∧ (kk = 0 → fo1 0 = r.toInt64) ∧ now9 ≤ now + 100
theorem zMs_in {G : zGt} {L : List Nat} {F : Nat → va_E} {m0 c0 c1 c2 c3 c4 c5 c6 o0 n now sk thr : Nat} {g : Nat → FdT} (h : zMo G L F m0 c0 c1 c2 c3 c4 c5 c6 n now sk thr g) (ho : o0 ∈ L) : ∀ b, zMs m0 c0 c1 c2 c3 c4 c5 c6 o0 b → b ∈ L := by
  obtain ⟨⟨l0, l1, l2, l3, l4, l5, l6, l7⟩, -⟩ := h
  intro b hb
  rcases hb with e | e | e | e | e | e | e | e | e <;> rw [e] <;> assumption
theorem zMs_o {m0 c0 c1 c2 c3 c4 c5 c6 o0 : Nat} : zMs m0 c0 c1 c2 c3 c4 c5 c6 o0 o0 := Or.inr (Or.inr (Or.inr (Or.inr (Or.inr (Or.inr (Or.inr (Or.inr rfl)))))))
theorem zMo_ne {G : zGt} {L : List Nat} {F : Nat → va_E} {m0 c0 c1 c2 c3 c4 c5 c6 o0 n now sk thr : Nat} {g : Nat → FdT} (h : zMo G L F m0 c0 c1 c2 c3 c4 c5 c6 n now sk thr g) (ho : zOt G F o0) : o0 ≠ m0 ∧ o0 ≠ c0 ∧ o0 ≠ c1 ∧ o0 ≠ c2 ∧ o0 ≠ c3 ∧ o0 ≠ c4 ∧ o0 ≠ c5 ∧ o0 ≠ c6 := by
  obtain ⟨-, ⟨h0, h1, h2, h3, h4, h5, h6, h7⟩, -⟩ := h
  obtain ⟨fo, hf⟩ := ho
  exact ⟨zne hf h0 rfl, zne hf h1 rfl, zne hf h2 rfl, zne hf h3 rfl, zne hf h4 rfl, zne hf h5 rfl, zne hf h6 rfl, zne hf h7 rfl⟩
theorem zMo.off {G : zGt} {L L1 : List Nat} {F F1 : Nat → va_E} {m0 c0 c1 c2 c3 c4 c5 c6 o0 n now sk thr : Nat} {g : Nat → FdT} (h : zMo G L F m0 c0 c1 c2 c3 c4 c5 c6 n now sk thr g) (hL : ∀ b, b ∈ L → b ∈ L1) (ho : zOt G F o0) (hk : ∀ b, zMs m0 c0 c1 c2 c3 c4 c5 c6 o0 b → b ≠ o0 → F1 b = F b) : zMo G L1 F1 m0 c0 c1 c2 c3 c4 c5 c6 n now sk thr g := by
  obtain ⟨k0, k1, k2, k3, k4, k5, k6, k7⟩ := zMo_ne h ho
  obtain ⟨⟨l0, l1, l2, l3, l4, l5, l6, l7⟩, ⟨h0, h1, h2, h3, h4, h5, h6, h7⟩, hN, hG, hB⟩ := h
  refine ⟨⟨hL _ l0, hL _ l1, hL _ l2, hL _ l3, hL _ l4, hL _ l5, hL _ l6, hL _ l7⟩, ⟨?_, ?_, ?_, ?_, ?_, ?_, ?_, ?_⟩, hN, hG, hB⟩
  · exact (hk _ (Or.inl rfl) (Ne.symm k0)).trans h0
  · exact (hk _ (Or.inr (Or.inl rfl)) (Ne.symm k1)).trans h1
  · exact (hk _ (Or.inr (Or.inr (Or.inl rfl))) (Ne.symm k2)).trans h2
  · exact (hk _ (Or.inr (Or.inr (Or.inr (Or.inl rfl)))) (Ne.symm k3)).trans h3
  · exact (hk _ (Or.inr (Or.inr (Or.inr (Or.inr (Or.inl rfl))))) (Ne.symm k4)).trans h4
  · exact (hk _ (Or.inr (Or.inr (Or.inr (Or.inr (Or.inr (Or.inl rfl)))))) (Ne.symm k5)).trans h5
  · exact (hk _ (Or.inr (Or.inr (Or.inr (Or.inr (Or.inr (Or.inr (Or.inl rfl))))))) (Ne.symm k6)).trans h6
  · exact (hk _ (Or.inr (Or.inr (Or.inr (Or.inr (Or.inr (Or.inr (Or.inr (Or.inl rfl)))))))) (Ne.symm k7)).trans h7
theorem zCl.offM {G : zGt} {M : Nat → Prop} {L : List Nat} {F F1 : Nat → va_E} {a0 n now sl : Nat} {fd : Nat → FdT} (h : zCl G M L F a0 n now sl fd) (hk : ∀ b, ¬ M b → F1 b = F b) : zCl G M L F1 a0 n now sl fd := by
  obtain ⟨a1, a2, b4, b5, b6, b7, ad, hco⟩ := h
  exact hco.off hk
theorem mKeep {F F1 : Nat → va_E} {m0 c0 c1 c2 c3 c4 c5 c6 o0 : Nat} (hk : ∀ b, b ≠ m0 → b ≠ c0 → b ≠ c1 → b ≠ c2 → b ≠ c3 → b ≠ c4 → b ≠ c5 → b ≠ c6 → F1 b = F b) : ∀ b, ¬ zMs m0 c0 c1 c2 c3 c4 c5 c6 o0 b → F1 b = F b := fun b hb => hk b (fun e => hb (Or.inl e)) (fun e => hb (Or.inr (Or.inl e))) (fun e => hb (Or.inr (Or.inr (Or.inl e)))) (fun e => hb (Or.inr (Or.inr (Or.inr (Or.inl e))))) (fun e => hb (Or.inr (Or.inr (Or.inr (Or.inr (Or.inl e)))))) (fun e => hb (Or.inr (Or.inr (Or.inr (Or.inr (Or.inr (Or.inl e))))))) (fun e => hb (Or.inr (Or.inr (Or.inr (Or.inr (Or.inr (Or.inr (Or.inl e)))))))) (fun e => hb (Or.inr (Or.inr (Or.inr (Or.inr (Or.inr (Or.inr (Or.inr (Or.inl e)))))))))
theorem oKeep {G : zGt} {L : List Nat} {F F1 : Nat → va_E} {m0 c0 c1 c2 c3 c4 c5 c6 o0 n now sk thr : Nat} {g : Nat → FdT} (h : zMo G L F m0 c0 c1 c2 c3 c4 c5 c6 n now sk thr g) (ho : zOt G F o0) (hk : ∀ b, b ≠ m0 → b ≠ c0 → b ≠ c1 → b ≠ c2 → b ≠ c3 → b ≠ c4 → b ≠ c5 → b ≠ c6 → F1 b = F b) : F1 o0 = F o0 := by
  obtain ⟨k0, k1, k2, k3, k4, k5, k6, k7⟩ := zMo_ne h ho
  exact hk o0 k0 k1 k2 k3 k4 k5 k6 k7
-- what a case of the law's switch stands on, and what it goes on with
def zLX (p : Program) (l : Launch) (s : State) (m : MethodId) (args : Array Value) (meth : Method) (c : Code) (b N : Nat) (xs : Nat → Int32) (G : zGt) (A : Nat → Prop) : Prop := zC p l s m args meth c code 7 wsL_law RL ret G A ∧ va_X b N xs s s.heap ∧ b < s.heap.size ∧ ¬ A b ∧ N ≤ 2048
def zLK (p : Program) (l : Launch) (e : Env) (s : State) (m : MethodId) (args : Array Value) (below : List Frame) (meth : Method) (c : Code) (G : zGt) (A : Nat → Prop) (Q : State → Prop) (b i ce sl a0 m0 c0 c1 c2 c3 c4 c5 c6 o0 now : Nat) : Prop :=
  ∀ (L : List Nat) (F : Nat → va_E) (n9 now9 sk9 : Nat) (fd9 g9 : Nat → FdT), now9 ≤ now + 100 → zLI G L F a0 m0 c0 c1 c2 c3 c4 c5 c6 o0 n9 now9 sk9 fd9 g9 → zW p l e room_1 s m args below meth c 7 G A Q (ce + 4) (sl + 34) L F 1196 [(0, .ref b), (1, .ref a0), (2, .ref m0), (3, .ref o0), (4, .int (nI i))] []
