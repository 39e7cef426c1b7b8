section ZB
variable {p : Program} {l : Launch} {e : Env} {R : Room} {s : State} {m : MethodId} {args : Array Value} {below : List Frame} {meth : Method} {c : Code} {cc : ByteArray} {nL : Nat} {Ts : List Cond} {own : String} {ret : Option FieldType} {G : zGt} {A : Nat → Prop} {Q : State → Prop} {ce sl : Nat} {L : List Nat} {F : Nat → va_E} {pc : Nat} {lv : List (Nat × Value)} {st : List Value}
variable {mc ms : Nat} {post : zPt} {px : zPx}
theorem zA_of {L : List Nat} {sz : Nat} : ∀ q, sz ≤ q → zA L sz q := fun _ h => Or.inr h
theorem z_begin {Q : State → Prop} {as : List Value} {ws ws' : List Cond} {y : MethodName} {rm : Room} {s₁ : State} {sz : Nat} (hlst : l.stackTraces = false) (hcls : y.cls = own)
    (B : BodyLoose p l y (headSpec ws rm) cc nL ret e s m args below meth c s₁) (hml : c.maxLocals = nL) (hv : va_Pc as (zPre G L F sz) args s) (hn : (lg_sl as).length ≤ nL)
    (k : zC p l s m as.toArray meth c cc nL ws own ret G (zA L sz) → zW p l e rm s m as.toArray below meth c nL G (zA L sz) Q 0 0 L F 0 (lv_args 0 as) []) : W p l e rm s m args below meth c s.heap [] 0 0 Q (entryFrame m args nL) := by
  obtain ⟨rfl, hsz, hR, hK, hS0⟩ := hv
  subst hsz
  have hC : zC p l s m as.toArray meth c cc nL ws own ret G (zA L s.heap.size) := ⟨⟨B.exec, B.bytes, hml, by rw [← hcls]; exact findClass_of_methodNamed B.named, atoms_spec (ws := ws) B.pre⟩, B.returns, B.notSynchronized, hK, hS0, zA_of, hlst⟩
  rw [lg_entry_eq]
  exact k hC s.heap [] _ hR.1 (zD_pl hR.2 (fun q h => Or.inl h)) va_S.rf (lv_entry as hn)
theorem z_of {as : List Value} {ws ws' : List Cond} {y : MethodName} {fr lo : Nat} (hlst : l.stackTraces = false) (hy : plainName y.cls = true) (hw : ws = Cond.code y cc nL ret :: ws') (hcls : y.cls = own) (hn : (lg_sl as).length ≤ nL)
    (body : ∀ (p : Program) (e : Env) (s : State) (m : MethodId) (below : List Frame) (meth : Method) (c : Code) (A : Nat → Prop), meth.name = y.name → zC p l s m as.toArray meth c cc nL ws own ret G A →
      zW p l e { frames := fr, cells := mc, slots := ms, locals := lo } s m as.toArray below meth c nL G A (MQ below (zQ G post A) as.toArray s mc ms A) 0 0 L F 0 (lv_args 0 as) []) : zM l y ws fr lo mc ms G L F as post := by
  intro sz
  refine Met.ofW (cc := cc) (maxL := nL) (ret := ret) hy hw ?_
  intro p e s m args below meth c s₁ B hml hv
  obtain ⟨ha, -⟩ := id hv
  subst ha
  exact z_begin (ws' := ws') hlst hcls B hml hv hn (fun C => body p e s m below meth c _ (name_of_methodNamed B.named B.method).1 C)
theorem z_ofX {as : List Value} {ws ws' : List Cond} {y : MethodName} {fr lo : Nat} (hlst : l.stackTraces = false) (hy : plainName y.cls = true) (hw : ws = Cond.code y cc nL ret :: ws') (hcls : y.cls = own) (hn : (lg_sl as).length ≤ nL)
    (body : ∀ (p : Program) (e : Env) (s : State) (m : MethodId) (below : List Frame) (meth : Method) (c : Code) (A : Nat → Prop), (∀ x ∈ c.exceptionTable.toList, False) → zC p l s m as.toArray meth c cc nL ws own ret G A →
      zW p l e { frames := fr, cells := mc, slots := ms, locals := lo } s m as.toArray below meth c nL G A (vx_MQ below (zQ G post A) (zE G px A) as.toArray s mc ms A) 0 0 L F 0 (lv_args 0 as) []) : zX l y ws fr lo mc ms G L F as post px := by
  intro sz
  refine vx_ofW (cc := cc) (maxL := nL) (ret := ret) hy hw ?_
  intro p e s m args below meth c s₁ B hml ht hv
  obtain ⟨ha, -⟩ := id hv
  subst ha
  exact z_begin (ws' := ws') hlst hcls B hml hv hn (fun C => body p e s m below meth c _ ht C)
theorem z_ofH {as : List Value} {ws ws' : List Cond} {y : MethodName} {fr lo : Nat} {hh : List (Nat × Nat × Nat × Nat)} (hlst : l.stackTraces = false) (hy : plainName y.cls = true) (hw : ws = Cond.codeWith y cc nL ret hh :: ws') (hcls : y.cls = own) (hn : (lg_sl as).length ≤ nL)
    (body : ∀ (p : Program) (e : Env) (s : State) (m : MethodId) (below : List Frame) (meth : Method) (c : Code) (A : Nat → Prop), c.exceptionTable.toList = tableOf hh → zC p l s m as.toArray meth c cc nL ws own ret G A →
      zW p l e { frames := fr, cells := mc, slots := ms, locals := lo } s m as.toArray below meth c nL G A (vx_MQ below (zQ G post A) (zE G px A) as.toArray s mc ms A) 0 0 L F 0 (lv_args 0 as) []) : zX l y ws fr lo mc ms G L F as post px := by
  intro sz
  refine vx_ofWH (cc := cc) (maxL := nL) (ret := ret) (hh := hh) hy hw ?_
  intro p e s m args below meth c s₁ B hml hv
  obtain ⟨ha, -⟩ := id hv
  subst ha
  exact z_begin (ws' := ws') hlst hcls B hml hv hn (fun C => body p e s m below meth c _ (vx_table (x := y) B (atoms_spec (ws := ws) B.pre _ (by rw [hw]; exact List.mem_cons_self))) C)

theorem z_iret0 (C : zC p l s m args meth c cc nL Ts own ret G A) {v : Int32} {ty : FieldType} (hret : ret = some ty) (hn : narrow ty (.int v) = .int v) (hc : ce ≤ mc) (hs : sl ≤ ms) (d : decode cc pc = .ok (.ireturn, 1)) (h : post (some (.int v)) L F) : zW p l e R s m args below meth c nL G A (MQ below (zQ G post A) args s mc ms A) ce sl L F pc lv [.int v] := by
  intro H locs ls hP hD hS hl
  refine W.widen hc hs ?_
  exact W.zret C.1.1 C.1.2.1 (C.2.1.trans hret) hn (fun t ht hW => ⟨⟨_, L, F, rfl, h, by rw [ht]; exact hP, hD⟩, hS.F ht⟩) hS.2.2 d C.2.2.1
theorem z_vret0 (C : zC p l s m args meth c cc nL Ts own ret G A) (hret : ret = none) (hc : ce ≤ mc) (hs : sl ≤ ms) (d : decode cc pc = .ok (.return_, 1)) (h : post none L F) : zW p l e R s m args below meth c nL G A (MQ below (zQ G post A) args s mc ms A) ce sl L F pc lv [] := by
  intro H locs ls hP hD hS hl
  refine W.widen hc hs ?_
  exact W.vret C.1.1 C.1.2.1 (C.2.1.trans hret) (fun t ht hW => ⟨⟨_, L, F, rfl, h, by rw [ht]; exact hP, hD⟩, hS.F ht⟩) hS.2.2 d C.2.2.1
theorem z_aret0 (C : zC p l s m args meth c cc nL Ts own ret G A) {a : Nat} {ty : FieldType} (hret : ret = some ty) (hty : (∃ n, ty = .object n) ∨ ∃ t, ty = .array t) (hc : ce ≤ mc) (hs : sl ≤ ms) (d : decode cc pc = .ok (.areturn, 1)) (h : post (some (.ref a)) L F) : zW p l e R s m args below meth c nL G A (MQ below (zQ G post A) args s mc ms A) ce sl L F pc lv [.ref a] := by
  intro H locs ls hP hD hS hl
  refine W.widen hc hs ?_
  exact W.aret C.1.1 C.1.2.1 (C.2.1.trans hret) hty (Or.inr ⟨a, rfl⟩) (fun t ht hW => ⟨⟨_, L, F, rfl, h, by rw [ht]; exact hP, hD⟩, hS.F ht⟩) hS.2.2 d C.2.2.1
theorem z_x (kk : zW p l e R s m args below meth c nL G A (MQ below (zQ G post A) args s mc ms A) ce sl L F pc lv st) : zW p l e R s m args below meth c nL G A (vx_MQ below (zQ G post A) (zE G px A) args s mc ms A) ce sl L F pc lv st := fun H locs ls hP hD hS hl => vx_ret (kk H locs ls hP hD hS hl)
theorem z_iret (C : zC p l s m args meth c cc nL Ts own ret G A) {v : Int32} {ty : FieldType} (hret : ret = some ty) (hn : narrow ty (.int v) = .int v) (hc : ce ≤ mc) (hs : sl ≤ ms) (d : decode cc pc = .ok (.ireturn, 1)) (h : post (some (.int v)) L F) : zW p l e R s m args below meth c nL G A (vx_MQ below (zQ G post A) (zE G px A) args s mc ms A) ce sl L F pc lv [.int v] := z_x (z_iret0 C hret hn hc hs d h)
theorem z_vret (C : zC p l s m args meth c cc nL Ts own ret G A) (hret : ret = none) (hc : ce ≤ mc) (hs : sl ≤ ms) (d : decode cc pc = .ok (.return_, 1)) (h : post none L F) : zW p l e R s m args below meth c nL G A (vx_MQ below (zQ G post A) (zE G px A) args s mc ms A) ce sl L F pc lv [] := z_x (z_vret0 C hret hc hs d h)
theorem z_aret (C : zC p l s m args meth c cc nL Ts own ret G A) {a : Nat} {ty : FieldType} (hret : ret = some ty) (hty : (∃ n, ty = .object n) ∨ ∃ t, ty = .array t) (hc : ce ≤ mc) (hs : sl ≤ ms) (d : decode cc pc = .ok (.areturn, 1)) (h : post (some (.ref a)) L F) : zW p l e R s m args below meth c nL G A (vx_MQ below (zQ G post A) (zE G px A) args s mc ms A) ce sl L F pc lv [.ref a] := z_x (z_aret0 C hret hty hc hs d h)

def zBad (cls : String) : List Cond := .castable cls cls :: zDecls.map (fun q => .declares q)
theorem z_throw (C : zC p l s m args meth c cc nL Ts own ret G A) {cls text : String} {ik is ic : Nat} (ho : own = RX2) (hcls : Bundle.fit cls = true) (hk : Cond.classLink own ik cls ∈ Ts) (hini : Cond.initialized cls ∈ Ts) (hstr : (is, text) ∈ zStrs) (names : List String) (hnames : ∀ n ∈ names, Bundle.fit n = true)
    (hat : ∀ w ∈ (vx_atS own ic cls names).filter goodWord, w ∈ Ts) (hbad : ∀ w ∈ (vx_atS own ic cls names).filter (fun w => !goodWord w), w ∈ zBad cls) (hcst : (cls, cls) ∈ zCasts)
    (hgood : ∀ w ∈ Cond.classLink own ik cls :: Cond.initialized cls :: vx_atS own ic cls names, vx_ot w = true)
    (d0 : decode cc pc = .ok (.new ik, 3)) (d3 : decode cc (pc + 3) = .ok (.dup, 1)) (d4 : decode cc (pc + 4) = .ok (.ldc is, 2)) (d6 : decode cc (pc + 6) = .ok (.invokespecial ic, 3)) (d9 : decode cc (pc + 9) = .ok (.athrow, 1))
    (hout : ∀ x ∈ c.exceptionTable.toList, False) (hRf : names.length + 3 < R.frames) (hRl : (st.map fun v => v.category).sum + (13 * (names.length + 1) + 43) ≤ R.locals) (hRc : ce + 1 ≤ R.cells) (hRs : sl + 6 ≤ R.slots) (hc : ce + 1 ≤ mc) (hs : sl + 6 ≤ ms) (h : px cls L F) : zW p l e R s m args below meth c nL G A (vx_MQ below (zQ G post A) (zE G px A) args s mc ms A) ce sl L F pc lv st := by
  intro H locs ls hP hD hS hl
  obtain ⟨sa, hsa⟩ := C.2.2.2.2.1.2.1 _ hstr
  subst ho
  have hb9 : ∀ w ∈ zBad cls, w.before args s = true := by
    intro w hw
    rcases List.mem_cons.mp hw with rfl | hw
    · exact va_Nw.use rfl (C.2.2.2.2.1.2.2.2.2.1 _ hcst)
    · obtain ⟨q, hq, rfl⟩ := List.mem_map.mp hw
      exact va_Nw.use rfl (C.2.2.2.2.1.2.2.2.2.2.2.2.2.2 q hq)
  refine vx_throwS C.1.1 C.1.2.1 C.2.2.2.2.2.2 C.1.2.2.2.1 hcls hnames (C.1.2.2.2.2 _ hk) (C.1.2.2.2.2 _ hini) hsa (vx_hat (fun w hw => C.1.2.2.2.2 w (hat w hw)) hbad hb9) hgood C.2.2.2.2.1.1.1 C.2.2.2.2.1.1.2.1 hS (hl.1.trans C.1.2.2.1.symm) d0 d3 d4 d6 d9 (fun x hx => (hout x hx).elim) hRf hRl hRc hRs C.2.2.1 ?_ hS.2.2 hc hs
  intro t hvm hz hk9
  refine ⟨⟨L, F, h, hP.kept (fun k q hq => hk9 _ ((hP k q hq).lt)), hD⟩, ?_⟩
  exact ⟨Nat.le_trans hS.1 hz, fun q h1 h2 => by rw [hk9 q (Nat.lt_of_lt_of_le h1 hS.1)]; exact hS.2.1 q h1 h2⟩
theorem z_out (C : zC p l s m args meth c cc nL Ts own ret G A) {E : String} (hout : ∀ x ∈ c.exceptionTable.toList, False) (hc : ce ≤ mc) (hs : sl ≤ ms) (h : px E L F) : zV p l e R s m args below meth c nL G A (vx_MQ below (zQ G post A) (zE G px A) args s mc ms A) E ce sl L F pc lv st := by
  intro H locs ls q cell hP hD hS hl hq hv hcl
  exact vx_out (fun x hx => (hout x hx).elim) C.2.2.1 hq hv hcl (fun t ht _ => ⟨⟨L, F, h, by rw [ht]; exact hP, hD⟩, hS.F ht⟩) hS.2.2 hc hs

theorem z_pre (C : zC p l s m args meth c cc nL Ts own ret G A) {H : Heap} {locs : List Loc} (hP : va_P G.1 vwCl (va_pl L F) H) (hD : va_D A (va_pl L F)) (hS : va_S A s.heap H locs) (as : List Value) : ∀ U : State, U.heap = H → s.WarmedH U.vm → va_Pc as (zPre G L F H.size) as.toArray U := by
  intro U hU hW
  refine ⟨rfl, by rw [hU], ⟨by rw [hU]; exact hP, zD_pl hD (fun _ _ => trivial)⟩, va_K.moved hW.alike C.2.2.2.1, ?_⟩
  rw [hU]
  exact ((C.2.2.2.2.1.warm hW).kept (fun a h1 h2 => hS.2.1 a h1 h2)).narrow (fun q hq => hq.elim (fun h => zD_in hD q h) (fun h => C.2.2.2.2.2.1 q (Nat.le_trans hS.1 h)))
theorem z_zA (C : zC p l s m args meth c cc nL Ts own ret G A) {H : Heap} {locs : List Loc} (hD : va_D A (va_pl L F)) (hS : va_S A s.heap H locs) : ∀ q, zA L H.size q → A q := fun q hq => hq.elim (fun h => zD_in hD q h) (fun h => C.2.2.2.2.2.1 q (Nat.le_trans hS.1 h))
theorem z_after (C : zC p l s m args meth c cc nL Ts own ret G A) {a : Array Value} {st0 rest : List Value} (hr : ∀ (H : Heap) (locs : List Loc) (ls : Array Slot), va_P G.1 vwCl (va_pl L F) H → va_D A (va_pl L F) → va_S A s.heap H locs → lv_has ls nL lv → va_Run p l e R s m args below meth c H locs ce sl mc ms (F0 m pc ls st0) rest (zQ G post (zA L H.size) a) (zA L H.size))
    (kk : ∀ (rv : Option Value) (L' : List Nat) (F' : Nat → va_E), post rv L' F' → zW p l e R s m args below meth c nL G A Q (ce + mc) (sl + ms) (L') (F') (pc + 3) lv (rv.toList ++ rest)) : zW p l e R s m args below meth c nL G A Q ce sl L F pc lv st0 := by
  intro H locs ls hP hD hS hl T hT X
  have hA := z_zA C hD hS
  obtain ⟨v, st₀, t, T', L9, h0, X', hL, e1, e2, ⟨⟨rv, L1, F1, hv, hp, hR⟩, hF⟩, st⟩ := hr H locs ls hP hD hS hl T hT X
  cases hv
  obtain ⟨k1, k2, k3⟩ := vx_keep h0 e1 hS (fun q _ h => hA q h) hA hL hF
  obtain ⟨t2, a1, b1⟩ := kk v L1 F1 hp T'.heap (locs ++ L9) ls (by rw [e1]; exact hR.1) (zD_pl hR.2 (fun q h => hA q (zD_in hR.2 q h))) k3 hl T' rfl X'
  exact ⟨t2, st t2 a1, b1⟩
theorem z_afterX (C : zC p l s m args meth c cc nL Ts own ret G A) {a : Array Value} {st0 rest : List Value} (hr : ∀ (H : Heap) (locs : List Loc) (ls : Array Slot), va_P G.1 vwCl (va_pl L F) H → va_D A (va_pl L F) → va_S A s.heap H locs → lv_has ls nL lv → vx_Run p l e R s m args below meth c H locs ce sl mc ms (F0 m pc ls st0) rest (zQ G post (zA L H.size) a) (zE G px (zA L H.size)) (zA L H.size))
    (kx : ∀ (E : String) (L' : List Nat) (F' : Nat → va_E), px E L' F' → zV p l e R s m args below meth c nL G A Q E (ce + mc) (sl + ms) (L') (F') pc lv rest)
    (kk : ∀ (rv : Option Value) (L' : List Nat) (F' : Nat → va_E), post rv L' F' → zW p l e R s m args below meth c nL G A Q (ce + mc) (sl + ms) (L') (F') (pc + 3) lv (rv.toList ++ rest)) : zW p l e R s m args below meth c nL G A Q ce sl L F pc lv st0 := by
  intro H locs ls hP hD hS hl T hT X
  have hA := z_zA C hD hS
  rcases hr H locs ls hP hD hS hl T hT X with ⟨v, st₀, t, T', L9, h0, X', hL, e1, e2, ⟨⟨rv, L1, F1, hv, hp, hR⟩, hF⟩, st⟩ | ⟨q, st₀, t, T', L9, E, cell, h0, X', hL, e1, e2, ⟨⟨L1, F1, hp, hR⟩, hF⟩, hce, hcv, hcl, st⟩
  · cases hv
    obtain ⟨k1, k2, k3⟩ := vx_keep h0 e1 hS (fun q _ h => hA q h) hA hL hF
    obtain ⟨t2, a1, b1⟩ := kk v L1 F1 hp T'.heap (locs ++ L9) ls (by rw [e1]; exact hR.1) (zD_pl hR.2 (fun q h => hA q (zD_in hR.2 q h))) k3 hl T' rfl X'
    exact ⟨t2, st t2 a1, b1⟩
  · obtain ⟨k1, k2, k3⟩ := vx_keep h0 e1 hS (fun q _ h => hA q h) hA hL hF
    obtain ⟨t2, a1, b1⟩ := kx E L1 F1 hp T'.heap (locs ++ L9) ls q cell (by rw [e1]; exact hR.1) (zD_pl hR.2 (fun q h => hA q (zD_in hR.2 q h))) k3 hl (by rw [e1]; exact hce) hcv hcl T' rfl X'
    exact ⟨t2, st.trans a1, b1⟩

theorem zKmv (C : zC p l s m args meth c cc nL Ts own ret G A) : va_K G.1 vwCl (zT G) s := C.2.2.2.1
theorem z_callV (C : zC p l s m args meth c cc nL Ts own ret G A) {y : MethodName} {ws : List Cond} {fr lo : Nat} {bytes : ByteArray} {maxL n index : Nat} {ry : Option FieldType} {As : List Value} {ci : Nat} {q9 : vw_C} {fs : List Value} {b : Nat} (hb : b ∈ L) (hFb : F b = .inr (ci, fs)) (hc9 : vwCl[ci]? = some q9) (hM : zM l y ws fr lo mc ms G L F (.ref b :: As) post) (cw : CallW R s args own q9.1 index y bytes maxL ry ws { frames := fr, cells := mc, slots := ms, locals := lo } mc ms n) (hn : As.length = n) (hst : (st.map fun v => v.category).sum ≤ 8) (hf : ce + mc ≤ R.cells ∧ sl + ms ≤ R.slots) (d : decode cc pc = .ok (.invokevirtual index, 3)) (kk : ∀ (rv : Option Value) (L' : List Nat) (F' : Nat → va_E), post rv L' F' → zW p l e R s m args below meth c nL G A Q (ce + mc) (sl + ms) (L') (F') (pc + 3) lv (rv.toList ++ st)) : zW p l e R s m args below meth c nL G A Q ce sl L F pc lv (As.reverse ++ .ref b :: st) := by
  obtain ⟨k9, hk9⟩ := zAt hb hFb
  refine z_after (a := (Value.ref b :: As).toArray) C (fun H locs ls hP hD hS hl => ?_) kk
  exact va_runV C.1 (hM H.size) cw ⟨zPre_blind, va_recv (zKmv C) hP hc9 hk9, z_pre C hP hD hS _⟩ rfl hn hl.1 rfl (lv_room hst) d hf
theorem z_callS (C : zC p l s m args meth c cc nL Ts own ret G A) {y : MethodName} {ws : List Cond} {fr lo : Nat} {bytes : ByteArray} {maxL n index : Nat} {ry : Option FieldType} {As : List Value} (hM : zM l y ws fr lo mc ms G L F As post) (cw : CallB R s args own index y bytes maxL ry ws { frames := fr, cells := mc, slots := ms, locals := lo } mc ms n ∧ (Cond.static y).before args s = true) (hn : As.length = n) (hst : (st.map fun v => v.category).sum ≤ 8) (hf : ce + mc ≤ R.cells ∧ sl + ms ≤ R.slots) (d : decode cc pc = .ok (.invokestatic index, 3)) (kk : ∀ (rv : Option Value) (L' : List Nat) (F' : Nat → va_E), post rv L' F' → zW p l e R s m args below meth c nL G A Q (ce + mc) (sl + ms) (L') (F') (pc + 3) lv (rv.toList ++ st)) : zW p l e R s m args below meth c nL G A Q ce sl L F pc lv (As.reverse ++ st) := by
  refine z_after (a := As.toArray) C (fun H locs ls hP hD hS hl => ?_) kk
  exact va_runS C.1 (hM H.size) cw ⟨zPre_blind, z_pre C hP hD hS _⟩ rfl hn hl.1 rfl (lv_room hst) d hf
theorem z_callVX (C : zC p l s m args meth c cc nL Ts own ret G A) {y : MethodName} {ws : List Cond} {fr lo : Nat} {bytes : ByteArray} {maxL n index : Nat} {ry : Option FieldType} {As : List Value} {ci : Nat} {q9 : vw_C} {fs : List Value} {b : Nat} (hb : b ∈ L) (hFb : F b = .inr (ci, fs)) (hc9 : vwCl[ci]? = some q9) (hM : zX l y ws fr lo mc ms G L F (.ref b :: As) post px) (cw : CallW R s args own q9.1 index y bytes maxL ry ws { frames := fr, cells := mc, slots := ms, locals := lo } mc ms n) (hn : As.length = n) (hst : (st.map fun v => v.category).sum ≤ 8) (hf : ce + mc ≤ R.cells ∧ sl + ms ≤ R.slots) (d : decode cc pc = .ok (.invokevirtual index, 3)) (kx : ∀ (E : String) (L' : List Nat) (F' : Nat → va_E), px E L' F' → zV p l e R s m args below meth c nL G A Q E (ce + mc) (sl + ms) (L') (F') pc lv st) (kk : ∀ (rv : Option Value) (L' : List Nat) (F' : Nat → va_E), post rv L' F' → zW p l e R s m args below meth c nL G A Q (ce + mc) (sl + ms) (L') (F') (pc + 3) lv (rv.toList ++ st)) : zW p l e R s m args below meth c nL G A Q ce sl L F pc lv (As.reverse ++ .ref b :: st) := by
  obtain ⟨k9, hk9⟩ := zAt hb hFb
  refine z_afterX (a := (Value.ref b :: As).toArray) C (fun H locs ls hP hD hS hl => ?_) kx kk
  exact vx_runV C.1 (hM H.size) cw ⟨zPre_blind, va_recv (zKmv C) hP hc9 hk9, z_pre C hP hD hS _⟩ rfl hn hl.1 rfl (lv_room hst) d hf
theorem z_callSX (C : zC p l s m args meth c cc nL Ts own ret G A) {y : MethodName} {ws : List Cond} {fr lo : Nat} {bytes : ByteArray} {maxL n index : Nat} {ry : Option FieldType} {As : List Value} (hM : zX l y ws fr lo mc ms G L F As post px) (cw : CallB R s args own index y bytes maxL ry ws { frames := fr, cells := mc, slots := ms, locals := lo } mc ms n ∧ (Cond.static y).before args s = true) (hn : As.length = n) (hst : (st.map fun v => v.category).sum ≤ 8) (hf : ce + mc ≤ R.cells ∧ sl + ms ≤ R.slots) (d : decode cc pc = .ok (.invokestatic index, 3)) (kx : ∀ (E : String) (L' : List Nat) (F' : Nat → va_E), px E L' F' → zV p l e R s m args below meth c nL G A Q E (ce + mc) (sl + ms) (L') (F') pc lv st) (kk : ∀ (rv : Option Value) (L' : List Nat) (F' : Nat → va_E), post rv L' F' → zW p l e R s m args below meth c nL G A Q (ce + mc) (sl + ms) (L') (F') (pc + 3) lv (rv.toList ++ st)) : zW p l e R s m args below meth c nL G A Q ce sl L F pc lv (As.reverse ++ st) := by
  refine z_afterX (a := As.toArray) C (fun H locs ls hP hD hS hl => ?_) kx kk
  exact vx_runS C.1 (hM H.size) cw ⟨zPre_blind, z_pre C hP hD hS _⟩ rfl hn hl.1 rfl (lv_room hst) d hf
theorem z_callSH (C : zC p l s m args meth c cc nL Ts own ret G A) {y : MethodName} {ws : List Cond} {fr lo : Nat} {bytes : ByteArray} {maxL n index : Nat} {ry : Option FieldType} {As : List Value} {hh : List (Nat × Nat × Nat × Nat)} (hM : zX l y ws fr lo mc ms G L F As post px) (cw : vx_CSW R s args own index y bytes maxL ry hh ws { frames := fr, cells := mc, slots := ms, locals := lo } mc ms n) (hn : As.length = n) (hst : (st.map fun v => v.category).sum ≤ 8) (hf : ce + mc ≤ R.cells ∧ sl + ms ≤ R.slots) (d : decode cc pc = .ok (.invokestatic index, 3)) (kx : ∀ (E : String) (L' : List Nat) (F' : Nat → va_E), px E L' F' → zV p l e R s m args below meth c nL G A Q E (ce + mc) (sl + ms) (L') (F') pc lv st) (kk : ∀ (rv : Option Value) (L' : List Nat) (F' : Nat → va_E), post rv L' F' → zW p l e R s m args below meth c nL G A Q (ce + mc) (sl + ms) (L') (F') (pc + 3) lv (rv.toList ++ st)) : zW p l e R s m args below meth c nL G A Q ce sl L F pc lv (As.reverse ++ st) := by
  refine z_afterX (a := As.toArray) C (fun H locs ls hP hD hS hl => ?_) kx kk
  exact vx_runSX C.1 (hM H.size) cw ⟨zPre_blind, z_pre C hP hD hS _⟩ rfl hn hl.1 rfl (lv_room hst) d hf
theorem z_callVN (C : zC p l s m args meth c cc nL Ts own ret G A) {y : MethodName} {ws : List Cond} {fr lo : Nat} {bytes : ByteArray} {maxL n index : Nat} {ry : Option FieldType} {As : List Value} {host : String} {ci : Nat} {q9 : vw_C} {fs : List Value} {b : Nat} (hb : b ∈ L) (hFb : F b = .inr (ci, fs)) (hc9 : vwCl[ci]? = some q9) (hM : zM l y ws fr lo mc ms G L F (.ref b :: As) post) (cw : va_CN R s args own index y host bytes maxL ry ws { frames := fr, cells := mc, slots := ms, locals := lo } mc ms n ∧ (Cond.instanceMethod y).before args s = true ∧ (Cond.selects q9.1 y y).before args s = true) (hn : As.length = n) (hst : (st.map fun v => v.category).sum ≤ 8) (hf : ce + mc ≤ R.cells ∧ sl + ms ≤ R.slots) (d : decode cc pc = .ok (.invokevirtual index, 3)) (kk : ∀ (rv : Option Value) (L' : List Nat) (F' : Nat → va_E), post rv L' F' → zW p l e R s m args below meth c nL G A Q (ce + mc) (sl + ms) (L') (F') (pc + 3) lv (rv.toList ++ st)) : zW p l e R s m args below meth c nL G A Q ce sl L F pc lv (As.reverse ++ .ref b :: st) := by
  obtain ⟨k9, hk9⟩ := zAt hb hFb
  refine z_after (a := (Value.ref b :: As).toArray) C (fun H locs ls hP hD hS hl => ?_) kk
  exact va_runVN C.1 (hM H.size) cw ⟨zPre_blind, va_recv (zKmv C) hP hc9 hk9, z_pre C hP hD hS _⟩ rfl hn hl.1 rfl (lv_room hst) d hf
theorem z_callSN (C : zC p l s m args meth c cc nL Ts own ret G A) {y : MethodName} {ws : List Cond} {fr lo : Nat} {bytes : ByteArray} {maxL n index : Nat} {ry : Option FieldType} {As : List Value} {host : String} (hM : zM l y ws fr lo mc ms G L F As post) (cw : va_CN R s args own index y host bytes maxL ry ws { frames := fr, cells := mc, slots := ms, locals := lo } mc ms n ∧ (Cond.static y).before args s = true ∧ True) (hn : As.length = n) (hst : (st.map fun v => v.category).sum ≤ 8) (hf : ce + mc ≤ R.cells ∧ sl + ms ≤ R.slots) (d : decode cc pc = .ok (.invokestatic index, 3)) (kk : ∀ (rv : Option Value) (L' : List Nat) (F' : Nat → va_E), post rv L' F' → zW p l e R s m args below meth c nL G A Q (ce + mc) (sl + ms) (L') (F') (pc + 3) lv (rv.toList ++ st)) : zW p l e R s m args below meth c nL G A Q ce sl L F pc lv (As.reverse ++ st) := by
  refine z_after (a := As.toArray) C (fun H locs ls hP hD hS hl => ?_) kk
  exact va_runSN C.1 (hM H.size) cw ⟨zPre_blind, z_pre C hP hD hS _⟩ rfl hn hl.1 rfl (lv_room hst) d hf
theorem z_callI (C : zC p l s m args meth c cc nL Ts own ret G A) {y : MethodName} {ws : List Cond} {fr lo : Nat} {bytes : ByteArray} {maxL n index : Nat} {As : List Value} {b : Nat} (hM : zM l y ws fr lo mc ms G L F (.ref b :: As) post) (cw : CallB R s args own index y bytes maxL none ws { frames := fr, cells := mc, slots := ms, locals := lo } mc ms n ∧ y.name = "<init>" ∧ (Cond.instanceMethod y).before args s = true) (hn : As.length = n) (hst : (st.map fun v => v.category).sum ≤ 8) (hf : ce + mc ≤ R.cells ∧ sl + ms ≤ R.slots) (d : decode cc pc = .ok (.invokespecial index, 3)) (kk : ∀ (rv : Option Value) (L' : List Nat) (F' : Nat → va_E), post rv L' F' → zW p l e R s m args below meth c nL G A Q (ce + mc) (sl + ms) (L') (F') (pc + 3) lv (rv.toList ++ st)) : zW p l e R s m args below meth c nL G A Q ce sl L F pc lv (As.reverse ++ .ref b :: st) := by
  refine z_after (a := (Value.ref b :: As).toArray) C (fun H locs ls hP hD hS hl => ?_) kk
  exact va_runI C.1 (hM H.size) cw ⟨zPre_blind, z_pre C hP hD hS _⟩ rfl hn hl.1 rfl (lv_room hst) d hf
theorem z_callIN (C : zC p l s m args meth c cc nL Ts own ret G A) {y : MethodName} {ws : List Cond} {fr lo : Nat} {bytes : ByteArray} {maxL n index : Nat} {As : List Value} {host : String} {b : Nat} (hM : zM l y ws fr lo mc ms G L F (.ref b :: As) post) (cw : va_CN R s args own index y host bytes maxL none ws { frames := fr, cells := mc, slots := ms, locals := lo } mc ms n ∧ y.name = "<init>" ∧ (Cond.instanceMethod y).before args s = true) (hn : As.length = n) (hst : (st.map fun v => v.category).sum ≤ 8) (hf : ce + mc ≤ R.cells ∧ sl + ms ≤ R.slots) (d : decode cc pc = .ok (.invokespecial index, 3)) (kk : ∀ (rv : Option Value) (L' : List Nat) (F' : Nat → va_E), post rv L' F' → zW p l e R s m args below meth c nL G A Q (ce + mc) (sl + ms) (L') (F') (pc + 3) lv (rv.toList ++ st)) : zW p l e R s m args below meth c nL G A Q ce sl L F pc lv (As.reverse ++ .ref b :: st) := by
  refine z_after (a := (Value.ref b :: As).toArray) C (fun H locs ls hP hD hS hl => ?_) kk
  exact va_runIN C.1 (hM H.size) cw ⟨zPre_blind, z_pre C hP hD hS _⟩ rfl hn hl.1 rfl (lv_room hst) d hf
theorem z_nl (C : zC p l s m args meth c cc nL Ts own ret G A) {own9 host : String} {index : Nat} {y : MethodName} (h : (own9, index, y, host) ∈ zNestM) : va_Nw (.methodLinkNest own9 index y host) s := C.2.2.2.2.1.2.2.1 _ h
theorem z_mr {m : MethodId} {pc : Nat} {ls : Array Slot} {st st2 : List Value} {k n : Nat} (h : (st.map fun v => v.category).sum + k ≤ n) : 2 * (F0 m pc ls st2).monitorRoom + (st.map fun v => v.category).sum + k ≤ n := by
  have e : (F0 m pc ls st2).monitorRoom = 0 := rfl
  rw [e]; omega
theorem z_obj (C : zC p l s m args meth c cc nL Ts own ret G A) {a index : Nat} {T9 : List Cond} (hl9 : Cond.methodLink own index objectInit ∈ Ts) (hi9 : Cond.instanceMethod objectInit ∈ Ts) (hc9 : Cond.code objectInit ⟨#[0xb1]⟩ 1 none ∈ Ts) (hst : (st.map fun v => v.category).sum + 12 ≤ R.locals) (hfr : 1 ≤ R.frames) (d : decode cc pc = .ok (.invokespecial index, 3)) (kk : zW p l e R s m args below meth c nL G A Q ce sl L F (pc + 3) lv st) : zW p l e R s m args below meth c nL G A Q ce sl L F pc lv (.ref a :: st) := by
  intro H locs ls hP hD hS hl
  refine W.objInit C.1.1 C.1.2.1 C.1.2.2.2.1 (C.1.2.2.2.2 _ hl9) (C.1.2.2.2.2 _ hi9) (C.1.2.2.2.2 _ hc9) rfl (by rw [C.1.2.2.1]; exact hl.1) rfl d hfr (z_mr hst) ?_
  exact kk H locs ls hP hD hS hl
theorem z_min (C : zC p l s m args meth c cc nL Ts own ret G A) {index : Nat} {x y : Int32} (v : Int32) (h1 : Cond.methodLink own index Lib.Math.min.name ∈ Ts) (h2 : Cond.static Lib.Math.min.name ∈ Ts) (h3 : Cond.initialized "java/lang/Math" ∈ Ts) (h4 : Cond.code Lib.Math.min.name Lib.Math.min.code 2 (some .int) ∈ Ts) (hfr : 1 ≤ R.frames) (hlo : (st.map fun v => v.category).sum + 13 ≤ R.locals) (hc : ce ≤ R.cells) (hs : sl ≤ R.slots) (d : decode cc pc = .ok (.invokestatic index, 3)) (hv : (if y < x then y else x) = v) (kk : zW p l e R s m args below meth c nL G A Q ce sl L F (pc + 3) lv (.int v :: st)) : zW p l e R s m args below meth c nL G A Q ce sl L F pc lv (.int y :: .int x :: st) := fun H locs ls hP hD hS hl => va_mmin C.1.1 C.1.2.1 (C.1.2.2.1.trans hl.1.symm) C.1.2.2.2.1 (C.1.2.2.2.2 _ h1) (C.1.2.2.2.2 _ h2) (C.1.2.2.2.2 _ h3) (C.1.2.2.2.2 _ h4) hfr hlo hc hs d (by rw [hv]; exact kk H locs ls hP hD hS hl)
theorem z_max (C : zC p l s m args meth c cc nL Ts own ret G A) {index : Nat} {x y : Int32} (v : Int32) (h1 : Cond.methodLink own index Lib.Math.max.name ∈ Ts) (h2 : Cond.static Lib.Math.max.name ∈ Ts) (h3 : Cond.initialized "java/lang/Math" ∈ Ts) (h4 : Cond.code Lib.Math.max.name Lib.Math.max.code 2 (some .int) ∈ Ts) (hfr : 1 ≤ R.frames) (hlo : (st.map fun v => v.category).sum + 13 ≤ R.locals) (hc : ce ≤ R.cells) (hs : sl ≤ R.slots) (d : decode cc pc = .ok (.invokestatic index, 3)) (hv : (if x < y then y else x) = v) (kk : zW p l e R s m args below meth c nL G A Q ce sl L F (pc + 3) lv (.int v :: st)) : zW p l e R s m args below meth c nL G A Q ce sl L F pc lv (.int y :: .int x :: st) := fun H locs ls hP hD hS hl => va_mmax C.1.1 C.1.2.1 (C.1.2.2.1.trans hl.1.symm) C.1.2.2.2.1 (C.1.2.2.2.2 _ h1) (C.1.2.2.2.2 _ h2) (C.1.2.2.2.2 _ h3) (C.1.2.2.2.2 _ h4) hfr hlo hc hs d (by rw [hv]; exact kk H locs ls hP hD hS hl)
theorem z_newO (C : zC p l s m args meth c cc nL Ts own ret G A) {Cn : String} {T : u_T} {N ci index : Nat} {fs : List Value} (hin : ∀ w ∈ u_ws Cn T N, w ∈ Ts) (ty : Nat → FieldType) (hty : ∀ k, k < N → parseFieldDescriptor (T k).2.2.1 = some (ty k)) (h1 : Cond.classLink own index Cn ∈ Ts) (h2 : Cond.instantiable Cn N ∈ Ts) (h3 : Cond.initialized Cn ∈ Ts) (hc : vwCl[ci]? = some (Cn, T, N)) (hfs : ∀ j, j < N → defaultValue (ty j) = vp_V fs j) (hce : ce + 1 ≤ R.cells) (hsl : sl + N ≤ R.slots) (d : decode cc pc = .ok (.new index, 3)) (kk : ∀ (q : Nat) (F1 : Nat → va_E), q ∉ L → F1 q = .inr (ci, fs) → (∀ b, b ≠ q → F1 b = F b) → zW p l e R s m args below meth c nL G A Q (ce + 1) (sl + N) (L ++ [q]) F1 (pc + 3) lv (.ref q :: st)) : zW p l e R s m args below meth c nL G A Q ce sl L F pc lv st := by
  intro H locs ls hP hD hS hl
  refine va_new C.1.1 C.1.2.1 C.1.2.2.2.2 hin ty hty C.1.2.2.2.1 (C.1.2.2.2.2 _ h1) (C.1.2.2.2.2 _ h2) (C.1.2.2.2.2 _ h3) C.2.2.2.1 hP hD hS C.2.2.2.2.2.1 hc hfs hce hsl d (fun q H1 hP1 hD1 hS1 => ?_)
  have hq : q ∉ L := va_pl_fresh2 (X := []) hD1
  rw [va_pl_push hq] at hP1 hD1
  exact kk q _ hq (va_up_self _ _ _) (fun b hb => va_up_ne _ _ hb) H1 locs ls hP1 hD1 hS1 hl
theorem z_arrI {D : va_G} {U : State} {t1 : List (ClassId × FieldType)} {cA cB : ClassId} {ty : FieldType} (h1 : va_RA U cA ty) (h2 : va_RA U cB ty) : cA = cB := by
  cases ty with
  | object C =>
    obtain ⟨-, -, -, -, -, a4⟩ := h1
    obtain ⟨-, -, -, -, -, b4⟩ := h2
    exact Option.some.inj (a4.symm.trans b4)
  | _ => exact Option.some.inj (Eq.trans (Eq.symm h1) h2)
theorem z_newI (C : zC p l s m args meth c cc nL Ts own ret G A) {n : Nat} (hn : n < 2 ^ 20) (h1 : Cond.arrayClass .int ∈ Ts) (hce : ce + 1 ≤ R.cells) (hsl : sl + n ≤ R.slots) (d : decode cc pc = .ok (.newarray .int, 2)) (kk : ∀ (q : Nat) (F1 : Nat → va_E), q ∉ L → F1 q = .inl (G.2.1, n, .inl (fun _ => 0)) → (∀ b, b ≠ q → F1 b = F b) → zW p l e R s m args below meth c nL G A Q (ce + 1) (sl + n) (L ++ [q]) F1 (pc + 2) lv (.ref q :: st)) : zW p l e R s m args below meth c nL G A Q ce sl L F pc lv (.int (nI n) :: st) := by
  intro H locs ls hP hD hS hl
  refine va_newa (atype := .int) (ty := .int) (a0 := (n, .inl (fun _ => 0))) C.1.1 C.1.2.1 (C.1.2.2.2.2 _ h1) rfl C.2.2.2.1 hP hD hS C.2.2.2.2.2.1 (fun cA => rfl) (nI_pos (by omega)) (nI_clamp (by omega)) (by show n * _ ≤ _; first | (simp only [componentBytes]; omega) | omega) hce hsl d (fun q cA H1 hK1 hP1 hD1 hS1 => ?_)
  have hq : q ∉ L := va_pl_fresh2 (X := []) hD1
  have he : cA = G.2.1 := z_arrI (D := G.1) (t1 := []) (hK1.2 3 _ rfl).2 (hK1.2 0 _ rfl).2
  subst he
  rw [va_pl_push hq] at hP1 hD1
  exact kk q _ hq (va_up_self _ _ _) (fun b hb => va_up_ne _ _ hb) H1 locs ls hP1 hD1 hS1 hl
theorem z_p {rv0 : Option Value} {mc ms : Nat} (kk : zW p l e R s m args below meth c nL G A Q (ce + mc) (sl + ms) L F pc lv (rv0.toList ++ st)) : ∀ (rv : Option Value) (L' : List Nat) (F' : Nat → va_E), (rv = rv0 ∧ L' = L ∧ F' = F) → zW p l e R s m args below meth c nL G A Q (ce + mc) (sl + ms) (L') (F') pc lv (rv.toList ++ st) := by
  rintro _ _ _ ⟨rfl, rfl, rfl⟩
  exact kk
theorem z_pp {rv0 : Option Value} {P : Prop} {mc ms : Nat} (kk : P → zW p l e R s m args below meth c nL G A Q (ce + mc) (sl + ms) L F pc lv (rv0.toList ++ st)) : ∀ (rv : Option Value) (L' : List Nat) (F' : Nat → va_E), (rv = rv0 ∧ L' = L ∧ F' = F ∧ P) → zW p l e R s m args below meth c nL G A Q (ce + mc) (sl + ms) (L') (F') pc lv (rv.toList ++ st) := by
  rintro _ _ _ ⟨rfl, rfl, rfl, h⟩
  exact kk h
theorem z_xo (C : zC p l s m args meth c cc nL Ts own ret G A) (hout : ∀ x ∈ c.exceptionTable.toList, False) {px0 : zPx} (hc : ce ≤ mc) (hs : sl ≤ ms) (h : ∀ (E : String) (L' : List Nat) (F' : Nat → va_E), px0 E L' F' → px E L' F') : ∀ (E : String) (L' : List Nat) (F' : Nat → va_E), px0 E L' F' → zV p l e R s m args below meth c nL G A (vx_MQ below (zQ G post A) (zE G px A) args s mc ms A) E ce sl (L') (F') pc lv st := fun E L' F' hx => z_out C hout hc hs (h E L' F' hx)
theorem zi_N {n : Nat} (h : n < 2147483648) : (nI n).toInt = (n : Int) := nI_toInt (by omega)
theorem zi_0 : (0 : Int32).toInt = 0 := by decide
theorem zi_lt {x y : Int32} {A B : Int} (hx : x.toInt = A) (hy : y.toInt = B) : x < y ↔ A < B := by rw [← hx, ← hy]; exact Int32.lt_iff_toInt_lt
theorem zi_le {x y : Int32} {A B : Int} (hx : x.toInt = A) (hy : y.toInt = B) : x ≤ y ↔ A ≤ B := by rw [← hx, ← hy]; exact Int32.le_iff_toInt_le
theorem zi_eq {x y : Int32} {A B : Int} (hx : x.toInt = A) (hy : y.toInt = B) : x = y ↔ A = B := by rw [← hx, ← hy]; exact Int32.toInt_inj.symm
theorem zb_n {b : Nat} (h : b ≤ 1) : narrow .boolean (.int (nI b)) = .int (nI b) := by
  rcases (show b = 0 ∨ b = 1 by omega) with rfl | rfl <;> rfl
theorem zb_f {b : Nat} (h : b ≤ 1) : fits .boolean (.int (nI b)) = true := by
  rcases (show b = 0 ∨ b = 1 by omega) with rfl | rfl <;> rfl
def zk : va_E → Nat
  | .inl (_, _, .inl _) => 100
  | .inl (_, _, .inr (.inl _)) => 101
  | .inl _ => 102
  | .inr o => o.1
theorem zne {F : Nat → va_E} {a b : Nat} {e1 e2 : va_E} (h1 : F a = e1) (h2 : F b = e2) (h : Nat.beq (zk e1) (zk e2) = false) : a ≠ b := by
  intro q
  subst q
  exact Nat.ne_of_beq_eq_false h (by rw [← h1, ← h2])
end ZB
