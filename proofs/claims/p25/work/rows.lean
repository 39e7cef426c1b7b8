section
-- ===== PART A: goes FIRST, ahead of the names: the tables' words, and 'selects' of the private methods out of them =====
/-- a private method of a class that the tables say can be made, by its rows of tables_1 -/
def lw_okq (q : MethodName × Nat) : Prop := (q.1.cls ≠ "java/lang/invoke/MethodHandle" ∧ q.1.cls ≠ "java/lang/invoke/VarHandle") ∧ Cond.instantiable q.1.cls q.2 ∈ tables_1 ∧ Cond.privateMethod q.1 ∈ tables_1 ∧ Cond.instanceMethod q.1 ∈ tables_1
theorem lw_p0 : lw_okq (⟨"java/lang/Throwable", "fillInStackTrace", "(I)Ljava/lang/Throwable;"⟩, 6) := ⟨⟨by decide +kernel, by decide +kernel⟩, List.mem_of_getElem? (i := 152) (by decide +kernel), List.mem_of_getElem? (i := 150) (by decide +kernel), List.mem_of_getElem? (i := 151) (by decide +kernel)⟩
theorem lw_p1 : lw_okq (⟨"java/util/ArrayList", "add", "(Ljava/lang/Object;[Ljava/lang/Object;I)V"⟩, 3) := ⟨⟨by decide +kernel, by decide +kernel⟩, List.mem_of_getElem? (i := 29) (by decide +kernel), List.mem_of_getElem? (i := 237) (by decide +kernel), List.mem_of_getElem? (i := 238) (by decide +kernel)⟩
theorem lw_p2 : lw_okq (⟨"java/util/ArrayList", "grow", "()[Ljava/lang/Object;"⟩, 3) := ⟨⟨by decide +kernel, by decide +kernel⟩, List.mem_of_getElem? (i := 29) (by decide +kernel), List.mem_of_getElem? (i := 241) (by decide +kernel), List.mem_of_getElem? (i := 242) (by decide +kernel)⟩
theorem lw_p3 : lw_okq (⟨"java/util/ArrayList", "grow", "(I)[Ljava/lang/Object;"⟩, 3) := ⟨⟨by decide +kernel, by decide +kernel⟩, List.mem_of_getElem? (i := 29) (by decide +kernel), List.mem_of_getElem? (i := 245) (by decide +kernel), List.mem_of_getElem? (i := 246) (by decide +kernel)⟩
theorem lw_p4 : lw_okq (⟨"Shedwheel", "feederOf", "(I)LShedwheel$Feeder;"⟩, 4) := ⟨⟨by decide +kernel, by decide +kernel⟩, List.mem_of_getElem? (i := 21) (by decide +kernel), List.mem_of_getElem? (i := 296) (by decide +kernel), List.mem_of_getElem? (i := 297) (by decide +kernel)⟩
theorem lw_p5 : lw_okq (⟨"Shedwheel$Feeder", "switchOn", "()V"⟩, 7) := ⟨⟨by decide +kernel, by decide +kernel⟩, List.mem_of_getElem? (i := 202) (by decide +kernel), List.mem_of_getElem? (i := 331) (by decide +kernel), List.mem_of_getElem? (i := 332) (by decide +kernel)⟩
theorem lw_p6 : lw_okq (⟨"Shedwheel$Feeder", "coldOnReturn", "()I"⟩, 7) := ⟨⟨by decide +kernel, by decide +kernel⟩, List.mem_of_getElem? (i := 202) (by decide +kernel), List.mem_of_getElem? (i := 335) (by decide +kernel), List.mem_of_getElem? (i := 336) (by decide +kernel)⟩
theorem lw_p7 : lw_okq (⟨"Shedwheel$Feeder", "taken", "()I"⟩, 7) := ⟨⟨by decide +kernel, by decide +kernel⟩, List.mem_of_getElem? (i := 202) (by decide +kernel), List.mem_of_getElem? (i := 340) (by decide +kernel), List.mem_of_getElem? (i := 341) (by decide +kernel)⟩
theorem lw_p8 : lw_okq (⟨"Shedwheel$Feeder", "withCold", "(I)I"⟩, 7) := ⟨⟨by decide +kernel, by decide +kernel⟩, List.mem_of_getElem? (i := 202) (by decide +kernel), List.mem_of_getElem? (i := 344) (by decide +kernel), List.mem_of_getElem? (i := 345) (by decide +kernel)⟩
theorem lw_p9 : lw_okq (⟨"Shedwheel", "chosenFor", "(I)I"⟩, 4) := ⟨⟨by decide +kernel, by decide +kernel⟩, List.mem_of_getElem? (i := 21) (by decide +kernel), List.mem_of_getElem? (i := 381) (by decide +kernel), List.mem_of_getElem? (i := 382) (by decide +kernel)⟩
theorem lw_p10 : lw_okq (⟨"Shedwheel", "prepareSearch", "(I)V"⟩, 4) := ⟨⟨by decide +kernel, by decide +kernel⟩, List.mem_of_getElem? (i := 21) (by decide +kernel), List.mem_of_getElem? (i := 385) (by decide +kernel), List.mem_of_getElem? (i := 386) (by decide +kernel)⟩
theorem lw_p11 : lw_okq (⟨"Shedwheel$Search", "begin", "(II)V"⟩, 10) := ⟨⟨by decide +kernel, by decide +kernel⟩, List.mem_of_getElem? (i := 55) (by decide +kernel), List.mem_of_getElem? (i := 389) (by decide +kernel), List.mem_of_getElem? (i := 390) (by decide +kernel)⟩
theorem lw_p12 : lw_okq (⟨"Shedwheel$Feeder", "mayBeCut", "()Z"⟩, 7) := ⟨⟨by decide +kernel, by decide +kernel⟩, List.mem_of_getElem? (i := 202) (by decide +kernel), List.mem_of_getElem? (i := 393) (by decide +kernel), List.mem_of_getElem? (i := 394) (by decide +kernel)⟩
theorem lw_p13 : lw_okq (⟨"Shedwheel$Search", "offer", "(III)V"⟩, 10) := ⟨⟨by decide +kernel, by decide +kernel⟩, List.mem_of_getElem? (i := 55) (by decide +kernel), List.mem_of_getElem? (i := 397) (by decide +kernel), List.mem_of_getElem? (i := 398) (by decide +kernel)⟩
theorem lw_p14 : lw_okq (⟨"Shedwheel$Search", "bestByWalking", "()I"⟩, 10) := ⟨⟨by decide +kernel, by decide +kernel⟩, List.mem_of_getElem? (i := 55) (by decide +kernel), List.mem_of_getElem? (i := 401) (by decide +kernel), List.mem_of_getElem? (i := 402) (by decide +kernel)⟩
theorem lw_p15 : lw_okq (⟨"Shedwheel$Search", "weigh", "(III)V"⟩, 10) := ⟨⟨by decide +kernel, by decide +kernel⟩, List.mem_of_getElem? (i := 55) (by decide +kernel), List.mem_of_getElem? (i := 408) (by decide +kernel), List.mem_of_getElem? (i := 409) (by decide +kernel)⟩
def lw_privs_1 : List (MethodName × Nat) := [(⟨"java/lang/Throwable", "fillInStackTrace", "(I)Ljava/lang/Throwable;"⟩, 6), (⟨"java/util/ArrayList", "add", "(Ljava/lang/Object;[Ljava/lang/Object;I)V"⟩, 3), (⟨"java/util/ArrayList", "grow", "()[Ljava/lang/Object;"⟩, 3), (⟨"java/util/ArrayList", "grow", "(I)[Ljava/lang/Object;"⟩, 3), (⟨"Shedwheel", "feederOf", "(I)LShedwheel$Feeder;"⟩, 4), (⟨"Shedwheel$Feeder", "switchOn", "()V"⟩, 7), (⟨"Shedwheel$Feeder", "coldOnReturn", "()I"⟩, 7), (⟨"Shedwheel$Feeder", "taken", "()I"⟩, 7), (⟨"Shedwheel$Feeder", "withCold", "(I)I"⟩, 7), (⟨"Shedwheel", "chosenFor", "(I)I"⟩, 4), (⟨"Shedwheel", "prepareSearch", "(I)V"⟩, 4), (⟨"Shedwheel$Search", "begin", "(II)V"⟩, 10), (⟨"Shedwheel$Feeder", "mayBeCut", "()Z"⟩, 7), (⟨"Shedwheel$Search", "offer", "(III)V"⟩, 10), (⟨"Shedwheel$Search", "bestByWalking", "()I"⟩, 10), (⟨"Shedwheel$Search", "weigh", "(III)V"⟩, 10)]
theorem lw_r1 : ∀ q ∈ lw_privs_1, lw_okq q := List.forall_mem_cons.mpr ⟨lw_p0, List.forall_mem_cons.mpr ⟨lw_p1, List.forall_mem_cons.mpr ⟨lw_p2, List.forall_mem_cons.mpr ⟨lw_p3, List.forall_mem_cons.mpr ⟨lw_p4, List.forall_mem_cons.mpr ⟨lw_p5, List.forall_mem_cons.mpr ⟨lw_p6, List.forall_mem_cons.mpr ⟨lw_p7, List.forall_mem_cons.mpr ⟨lw_p8, List.forall_mem_cons.mpr ⟨lw_p9, List.forall_mem_cons.mpr ⟨lw_p10, List.forall_mem_cons.mpr ⟨lw_p11, List.forall_mem_cons.mpr ⟨lw_p12, List.forall_mem_cons.mpr ⟨lw_p13, List.forall_mem_cons.mpr ⟨lw_p14, List.forall_mem_cons.mpr ⟨lw_p15, fun _ h => absurd h List.not_mem_nil⟩⟩⟩⟩⟩⟩⟩⟩⟩⟩⟩⟩⟩⟩⟩⟩
theorem lw_p16 : lw_okq (⟨"Shedwheel$Search", "isBetter", "(III)Z"⟩, 10) := ⟨⟨by decide +kernel, by decide +kernel⟩, List.mem_of_getElem? (i := 55) (by decide +kernel), List.mem_of_getElem? (i := 412) (by decide +kernel), List.mem_of_getElem? (i := 413) (by decide +kernel)⟩
theorem lw_p17 : lw_okq (⟨"Shedwheel$Feeder", "switchOff", "()I"⟩, 7) := ⟨⟨by decide +kernel, by decide +kernel⟩, List.mem_of_getElem? (i := 202) (by decide +kernel), List.mem_of_getElem? (i := 442) (by decide +kernel), List.mem_of_getElem? (i := 443) (by decide +kernel)⟩
theorem lw_p18 : lw_okq (⟨"Shedwheel$Feeder", "takenIfRestored", "()I"⟩, 7) := ⟨⟨by decide +kernel, by decide +kernel⟩, List.mem_of_getElem? (i := 202) (by decide +kernel), List.mem_of_getElem? (i := 454) (by decide +kernel), List.mem_of_getElem? (i := 455) (by decide +kernel)⟩
theorem lw_p19 : lw_okq (⟨"Shedwheel", "takenByReturning", "()I"⟩, 4) := ⟨⟨by decide +kernel, by decide +kernel⟩, List.mem_of_getElem? (i := 21) (by decide +kernel), List.mem_of_getElem? (i := 466) (by decide +kernel), List.mem_of_getElem? (i := 467) (by decide +kernel)⟩
theorem lw_p20 : lw_okq (⟨"Shedwheel$Feeder", "mayReturn", "()Z"⟩, 7) := ⟨⟨by decide +kernel, by decide +kernel⟩, List.mem_of_getElem? (i := 202) (by decide +kernel), List.mem_of_getElem? (i := 470) (by decide +kernel), List.mem_of_getElem? (i := 471) (by decide +kernel)⟩
theorem lw_p21 : lw_okq (⟨"Shedwheel", "swapFor", "(I)I"⟩, 4) := ⟨⟨by decide +kernel, by decide +kernel⟩, List.mem_of_getElem? (i := 21) (by decide +kernel), List.mem_of_getElem? (i := 475) (by decide +kernel), List.mem_of_getElem? (i := 476) (by decide +kernel)⟩
theorem lw_p22 : lw_okq (⟨"Shedwheel$Feeder", "letPass", "(I)V"⟩, 7) := ⟨⟨by decide +kernel, by decide +kernel⟩, List.mem_of_getElem? (i := 202) (by decide +kernel), List.mem_of_getElem? (i := 490) (by decide +kernel), List.mem_of_getElem? (i := 491) (by decide +kernel)⟩
def lw_privs_2 : List (MethodName × Nat) := [(⟨"Shedwheel$Search", "isBetter", "(III)Z"⟩, 10), (⟨"Shedwheel$Feeder", "switchOff", "()I"⟩, 7), (⟨"Shedwheel$Feeder", "takenIfRestored", "()I"⟩, 7), (⟨"Shedwheel", "takenByReturning", "()I"⟩, 4), (⟨"Shedwheel$Feeder", "mayReturn", "()Z"⟩, 7), (⟨"Shedwheel", "swapFor", "(I)I"⟩, 4), (⟨"Shedwheel$Feeder", "letPass", "(I)V"⟩, 7)]
theorem lw_r2 : ∀ q ∈ lw_privs_2, lw_okq q := List.forall_mem_cons.mpr ⟨lw_p16, List.forall_mem_cons.mpr ⟨lw_p17, List.forall_mem_cons.mpr ⟨lw_p18, List.forall_mem_cons.mpr ⟨lw_p19, List.forall_mem_cons.mpr ⟨lw_p20, List.forall_mem_cons.mpr ⟨lw_p21, List.forall_mem_cons.mpr ⟨lw_p22, fun _ h => absurd h List.not_mem_nil⟩⟩⟩⟩⟩⟩⟩
def lw_privs : List (MethodName × Nat) := lw_privs_1 ++ (lw_privs_2)
def lw_tbl : List Cond := k2_sels lw_privs ++ tables_1
theorem lw_privs_ok : ∀ q ∈ lw_privs, lw_okq q := by
  show ∀ q ∈ lw_privs_1 ++ (lw_privs_2), lw_okq q
  exact List.forall_mem_append.mpr ⟨lw_r1, lw_r2⟩
end
section
/-! ===== BEGIN words of one list among another's, by their places ===== -/
theorem goodIn_r {big : List Cond} (ws : List Cond) (ps : List Nat) (hp : ws = ps.filterMap (fun i => big[i]?)) (h : ws.all goodWord = true) : GoodIn big ws := by
  intro w hw
  have h1 := List.all_eq_true.mp h w hw
  rw [hp] at hw
  obtain ⟨i, -, hi⟩ := List.mem_filterMap.mp hw
  have hm : w ∈ big := by first | exact List.mem_of_getElem? hi | exact List.getElem?_mem hi
  exact ⟨hm, good_of_word h1⟩
theorem goodIn_app {big a b : List Cond} (ha : GoodIn big a) (hb : GoodIn big b) : GoodIn big (a ++ b) := fun w h => (List.mem_append.mp h).elim (ha w) (hb w)
theorem goodIn_ca {big a b : List Cond} {c : Cond} (ha : GoodIn big (c :: a)) (hb : GoodIn big b) : GoodIn big (c :: (a ++ b)) := fun w h => (List.mem_cons.mp h).elim (fun e => ha w (List.mem_cons.mpr (Or.inl e))) (fun h => (List.mem_append.mp h).elim (fun h => ha w (List.mem_cons.mpr (Or.inr h))) (hb w))
theorem goodIn_sub {big ws : List Cond} (hm : ∀ w ∈ ws, w ∈ big) (h : ws.all goodWord = true) : GoodIn big ws := fun w hw => ⟨hm w hw, good_of_word (List.all_eq_true.mp h w hw)⟩
/-! ===== END ===== -/

/-! ===== BEGIN exceptions that leave a method, and their catching by the caller (launches without stack traces) ===== -/
section VXA
/-! The laws vx_back, vx_callV, vx_callS, vx_callSW, vx_throw0, vx_throwS follow proofs of the library, with one case more: JvmDerived/Free/Laws.lean (Back.of_free), Shelf42/LK1.lean (callV, callS), Shelf/KitTraced.lean (throwNew0V, throwNewS). -/
/-- where a method has thrown q: the class by its name, the cell, what was written, the world -/
def vx_T (XC : String → State → State → Prop) (st : State) (q : Addr) (t : State) (mc ms : Nat) (free : Addr → Prop) : Prop :=
  ∃ (E : String) (ce : Cell) (L : List Loc), XC E st t ∧ t.heap[q]? = some ce ∧ ce.vm = .none ∧ st.vm.findClass E = some ce.cls ∧ st.WarmedH t.vm ∧ st.sameButNew ({ t with vm := st.vm } : State) L mc ms ∧ ∀ z ∈ L, free z.base
def vx_Q (Qc : Array Value → State → Outcome → State → Prop) (XC : String → State → State → Prop) (mc ms : Nat) (free : Addr → Prop) : Array Value → State → Outcome → State → Prop := fun a st o t =>
  (Qc a st o t ∧ ∃ L, FrameEnd st o t L mc ms ∧ ∀ q ∈ L, free q.base) ∨ ∃ q, o = .threw q ∧ vx_T XC st q t mc ms free
/-- a callee that returns or throws -/
def vx_Met (l : Launch) (y : MethodName) (ws : List Cond) (rm : Room) (Pc : Array Value → State → Prop) (Qc : Array Value → State → Outcome → State → Prop) (XC : String → State → State → Prop) (mc ms : Nat) (free : Addr → Prop) : Prop :=
  MetFree l y (headSpec ws rm) Pc (fun _ _ _ _ _ => True) (vx_Q Qc XC mc ms free)
def vx_Post (XC : String → State → State → Prop) (mc ms : Nat) (free : Addr → Prop) : Pt → Array Value → Addr → Pt → Prop := fun A a q B =>
  ∃ (g : JFrame) (mk : MethodId) (t : State) (L : List Loc) (E : String) (ce : Cell), B.U.heap = t.heap ∧ B.U.vm = t.vm ∧ XC E (A.U.calling g mk a) t ∧ t.heap[q]? = some ce ∧ ce.vm = .none ∧ A.U.vm.findClass E = some ce.cls ∧ B.locs = A.locs ++ L ∧ (∀ z ∈ L, free z.base) ∧ B.cells = A.cells + mc ∧ B.slots = A.slots + ms
def vx_Back (l : Launch) (R : Room) (p : Program) (e : Env) (below : List Frame) (s : State) (sargs : Array Value) (y : MethodName) (len W9 : Nat)
    (Pre : Pt → Array Value → Prop) (Post : Pt → Array Value → Option Value → Pt → Prop) (PostX : Pt → Array Value → Addr → Pt → Prop) : Prop :=
  ∀ (m : MethodId) (meth : Method) (c : Code) (A : Pt) (g : JFrame) (ig : Instr) (mk : MethodId) (a : Array Value),
    Stand p l e R s m sargs below meth c A.U A.locs A.cells A.slots → g.method = m → g.locals.size = c.maxLocals → decode c.code g.pc = .ok (ig, len) →
    2 * g.monitorRoom + (g.stack.map fun v => v.category).sum ≤ W9 → A.U.methodNamed? y = some mk → Pre A a →
    (∃ (v : Option Value) (B : Pt), Stand p l e R s m sargs below meth c B.U B.locs B.cells B.slots ∧ Post A a v B ∧
      Steps p.tables e below (doInvoke e (A.U.setTop g) [] mk a).1 (B.U.setTop { g with pc := g.pc + len, stack := v.toList ++ g.stack })) ∨
    (∃ (q : Addr) (B : Pt), Stand p l e R s m sargs below meth c B.U B.locs B.cells B.slots ∧ PostX A a q B ∧
      Steps p.tables e below (doInvoke e (A.U.setTop g) [] mk a).1 ((B.U.setTop g).pushFrame (.throwing q)))
section Payer
variable {l : Launch} {R : Room} {p : Program} {e : Env} {below : List Frame} {s : State} {sargs : Array Value} {y : MethodName} {len W9 : Nat}
theorem vx_back {ws : List Cond} {rm : Room} {Pc : Array Value → State → Prop} {Qc : Array Value → State → Outcome → State → Prop} {XC : String → State → State → Prop} {mc ms : Nat} {free : Addr → Prop} {bytes : ByteArray} {maxL : Nat} {ret : Option FieldType}
    (hM : vx_Met l y ws rm Pc Qc XC mc ms free) (hblind : FrameBlind Pc) (hrc : rm.cells = mc) (hrs : rm.slots = ms)
    (hframes : rm.frames + 1 ≤ R.frames) (hlocals : W9 + (maxL + 11) + rm.locals ≤ R.locals)
    (hws : ∀ w ∈ ws, ∀ a' U, s.WarmedH U.vm → w.before a' U = true) (hcode : Cond.code y bytes maxL ret ∈ ws) (hinit : ∀ a' U, s.WarmedH U.vm → (Cond.initialized y.cls).before a' U = true) :
    vx_Back l R p e below s sargs y len W9 (PreOf R mc ms Pc) (PostOf Qc mc ms free) (vx_Post XC mc ms free) := by
  intro m meth c A g ig mk a X hg hsize hdg hW hn hp
  have h1 : (headSpec ws rm).pre.before a A.U = true := atoms_intro fun w hw => hws w hw _ _ X.warmed
  have h2 : (Cond.code y bytes maxL ret).before a A.U = true := hws _ hcode _ _ X.warmed
  have h3 : (Cond.initialized y.cls).before a A.U = true := hinit _ _ X.warmed
  have h4 : A.cells + (headSpec ws rm).room.cells ≤ R.cells := by rw [show (headSpec ws rm).room.cells = mc from hrc]; exact hp.1
  have h5 : A.slots + (headSpec ws rm).room.slots ≤ R.slots := by rw [show (headSpec ws rm).room.slots = ms from hrs]; exact hp.2.1
  have hPc : Pc a (A.U.calling g mk a) := hblind _ _ _ _ hp.2.2
  obtain ⟨U, Ls, c0, s0⟩ := A
  dsimp only [Pt.U, Pt.locs, Pt.cells, Pt.slots] at h1 h2 h3 h4 h5 X hn hPc ⊢
  obtain ⟨methY, cY, hmY, hcY, -, hlY, -, -, -, -⟩ := Cond.code_spec hn h2
  obtain ⟨kY, hkY, -⟩ := className_of_methodNamed hn
  have hinitY : kY.init = .initialized := Cond.initialized_spec (findClass_of_methodNamed hn) hkY h3
  have h : At U g.method c below := by rw [hg]; exact X.here
  have hlocals9 : W9 + (maxL + 11) + (headSpec ws rm).room.locals ≤ R.locals := hlocals
  have happ : (headSpec ws rm).appliesLoose y e.platform (U.calling g mk a) = true :=
    Spec.appliesLoose_calling (g := g) h hdg hn hkY hinitY
      (X.room_calling (g := g) (R' := (headSpec ws rm).room) hsize hmY hcY hframes (by rw [hlY]; omega) h4 h5) h1
  obtain ⟨mid, hmid⟩ := h.above
  have hfr : (U.setTop g).frames = (.java g :: mid) ++ below := by rw [State.frames_setTop' g h.top, hmid]; rfl
  obtain ⟨o, s₂, hsteps, -, hend, hq⟩ := Steps.callFree hM p X.admits X.cas X.clock (acts := []) hfr happ hPc trivial
  have hq' : vx_Q Qc XC mc ms free a (U.calling g mk a) o s₂ := hq
  rw [State.frames_setTop' g h.top] at hend
  obtain ⟨g₀, hg0⟩ := Option.isSome_iff_exists.mp h.top
  obtain ⟨r, hr⟩ := State.topJava?_eq_some.mp hg0
  have hr' : (({ U with heap := s₂.heap, slotsUsed := s₂.slotsUsed } : State).setVm s₂.vm).frames = .java g₀ :: r := hr
  rcases hq' with ⟨hqc, L, hfe, hL⟩ | ⟨q, rfl, E, ce, L, hx, hce, hcv, hcl, hW₂, hsm, hL⟩
  · obtain ⟨⟨v, rfl⟩, hW₂, e2, q2, q3, q4, q5, q6⟩ := id hfe
    have e3 : s₂ = ({ (U.calling g mk a).setFrames s₂.frames with heap := s₂.heap, slotsUsed := s₂.slotsUsed } : State).setVm s₂.vm := by
      have : s₂ = ({ s₂ with vm := (U.calling g mk a).vm } : State).setVm s₂.vm := rfl
      rw [e2] at this
      exact this
    obtain ⟨c₂, i₂, len₂, hc₂, hd₂, hf₂⟩ := hend
    have hW' : U.WarmedH s₂.vm := hW₂
    have hcc : c₂ = c := by
      have h1 : s₂.code? g.method = U.code? g.method := by
        rw [State.code?_eq, State.code?_eq, hW'.alike.method?]
      exact Option.some.inj (hc₂.symm.trans (h1.trans h.code))
    subst hcc
    have hlen : len₂ = len := by rw [hdg] at hd₂; cases hd₂; rfl
    subst hlen
    have hs₂ : s₂ = (({ U with heap := s₂.heap, slotsUsed := s₂.slotsUsed } : State).setVm s₂.vm).setTop { g with pc := g.pc + len₂, stack := v.toList ++ g.stack } := by
      refine e3.trans ?_
      rw [hf₂, State.calling_eq h.top, State.setFrames_setFrames, State.setTop_of_frames _ hr', hr]
      rfl
    have hsame : U.sameButNew ({ U with heap := s₂.heap, slotsUsed := s₂.slotsUsed } : State) L mc ms := by
      refine ⟨?_, q2, q3, q4, q5, q6⟩
      obtain ⟨t, ht, -⟩ := State.frames_cons hr
      show ({ U with heap := s₂.heap, slotsUsed := s₂.slotsUsed } : State) = { U.setFrames U.frames with heap := s₂.heap, slotsUsed := s₂.slotsUsed }
      rw [State.setFrames_self ht]
    subst hg
    refine Or.inl ⟨v, ⟨(({ U with heap := s₂.heap, slotsUsed := s₂.slotsUsed } : State).setVm s₂.vm), Ls ++ L, c0 + mc, s0 + ms⟩,
      ⟨X.admits, X.cas, X.clock, X.frames, X.room, X.hears, X.method, X.code, (X.here.setHeapUsed s₂.heap s₂.slotsUsed).setVm hW'.alike, X.tail, State.WarmedH.trans X.warmed hW', X.limits, X.bytes, X.same.trans (hsame.setVm s.vm)⟩,
      ⟨g, mk, s₂, L, rfl, rfl, hqc, rfl, hL, rfl, rfl⟩, ?_⟩
    show Steps p.tables e below _ ((({ U with heap := s₂.heap, slotsUsed := s₂.slotsUsed } : State).setVm s₂.vm).setTop { g with pc := g.pc + len₂, stack := v.toList ++ g.stack })
    rw [← hs₂]
    exact hsteps
  · obtain ⟨e2, q2, q3, q4, q5, q6⟩ := id hsm
    have e3 : s₂ = ({ (U.calling g mk a).setFrames s₂.frames with heap := s₂.heap, slotsUsed := s₂.slotsUsed } : State).setVm s₂.vm := by
      have : s₂ = ({ s₂ with vm := (U.calling g mk a).vm } : State).setVm s₂.vm := rfl
      rw [e2] at this
      exact this
    have hf₂ : s₂.frames = .throwing q :: .java g :: U.frames.tail := hend
    have hW' : U.WarmedH s₂.vm := hW₂
    have hs₂ : s₂ = ((({ U with heap := s₂.heap, slotsUsed := s₂.slotsUsed } : State).setVm s₂.vm).setTop g).pushFrame (.throwing q) := by
      refine e3.trans ?_
      rw [hf₂, State.calling_eq h.top, State.setFrames_setFrames, State.pushFrame, State.frames_setTop _ hr', State.setTop_of_frames _ hr', State.setFrames_setFrames, hr]
      rfl
    have hsame : U.sameButNew ({ U with heap := s₂.heap, slotsUsed := s₂.slotsUsed } : State) L mc ms := by
      refine ⟨?_, q2, q3, q4, q5, q6⟩
      obtain ⟨t, ht, -⟩ := State.frames_cons hr
      show ({ U with heap := s₂.heap, slotsUsed := s₂.slotsUsed } : State) = { U.setFrames U.frames with heap := s₂.heap, slotsUsed := s₂.slotsUsed }
      rw [State.setFrames_self ht]
    subst hg
    refine Or.inr ⟨q, ⟨(({ U with heap := s₂.heap, slotsUsed := s₂.slotsUsed } : State).setVm s₂.vm), Ls ++ L, c0 + mc, s0 + ms⟩,
      ⟨X.admits, X.cas, X.clock, X.frames, X.room, X.hears, X.method, X.code, (X.here.setHeapUsed s₂.heap s₂.slotsUsed).setVm hW'.alike, X.tail, State.WarmedH.trans X.warmed hW', X.limits, X.bytes, X.same.trans (hsame.setVm s.vm)⟩,
      ⟨g, mk, s₂, L, E, ce, rfl, rfl, hx, hce, hcv, hcl, rfl, hL, rfl, rfl⟩, ?_⟩
    show Steps p.tables e below _ (((({ U with heap := s₂.heap, slotsUsed := s₂.slotsUsed } : State).setVm s₂.vm).setTop g).pushFrame (.throwing q))
    rw [← hs₂]
    exact hsteps
end Payer
section Calls
variable {p : Program} {l : Launch} {e : Env} {R : Room} {s : State} {m : MethodId} {args : Array Value} {below : List Frame} {meth : Method} {c : Code} {T : State} {locs : List Loc} {cells slots : Nat}
theorem vx_callV (X : Stand p l e R s m args below meth c T locs cells slots) (hexec : p.tables.exec = Jvm.exec) {own C : String} {index : Nat} {y : MethodName} {bytes : ByteArray} {maxL : Nat} {ret : Option FieldType}
    (hown : s.vm.findClass own = some m.cls) (hlink : (Cond.methodLink own index y).before args s = true) (hinst : (Cond.instanceMethod y).before args s = true) (hsel : (Cond.selects C y y).before args s = true)
    (hcode : (Cond.code y bytes maxL ret).before args s = true) (hy : y.cls ≠ "java/lang/invoke/MethodHandle" ∧ y.cls ≠ "java/lang/invoke/VarHandle")
    {W9 : Nat} {Pre : Pt → Array Value → Prop} {Post : Pt → Array Value → Option Value → Pt → Prop} {PostX : Pt → Array Value → Addr → Pt → Prop} (hK : vx_Back l R p e below s args y 3 W9 Pre Post PostX)
    {b : Addr} {cellB : Cell} (hcell : T.heap[b]? = some cellB) (hobj : cellB.vm.isStatics = false) (hcls : s.vm.findClass C = some cellB.cls)
    {g : JFrame} (hg : g.method = m) (hsize : g.locals.size = c.maxLocals) {argsL rest : List Value} (hlen : ∀ sig, parseMethodDescriptor y.desc = some sig → argsL.length = sig.parameters.length)
    (hstack : g.stack = argsL.reverse ++ .ref b :: rest) (hW : 2 * g.monitorRoom + (rest.map fun v => v.category).sum ≤ W9) (hdg : decode c.code g.pc = .ok (.invokevirtual index, 3))
    (hpre : ∀ vm₁, s.WarmedH vm₁ → Pre ⟨T.setVm vm₁, locs, cells, slots⟩ (Value.ref b :: argsL).toArray) :
    (∃ (v : Option Value) (vm₁ : Vm) (B : Pt), s.WarmedH vm₁ ∧ Stand p l e R s m args below meth c B.U B.locs B.cells B.slots ∧ Post ⟨T.setVm vm₁, locs, cells, slots⟩ (Value.ref b :: argsL).toArray v B ∧
      ∀ target, Steps p.tables e below (B.U.setTop { g with pc := g.pc + 3, stack := v.toList ++ rest }) target → Steps p.tables e below (T.setTop g) target) ∨
    (∃ (q : Addr) (vm₁ : Vm) (B : Pt), s.WarmedH vm₁ ∧ Stand p l e R s m args below meth c B.U B.locs B.cells B.slots ∧ PostX ⟨T.setVm vm₁, locs, cells, slots⟩ (Value.ref b :: argsL).toArray q B ∧
      Steps p.tables e below (T.setTop g) ((B.U.setTop { g with stack := rest }).pushFrame (.throwing q))) := by
  obtain ⟨mk, methM, hnamed, hmethM, hstM, habM⟩ := Cond.instanceMethod_spec hinst
  obtain ⟨methM', cM, hmethM', -, -, -, -, -, -, hsigM⟩ := Cond.code_spec hnamed hcode
  cases hmethM.symm.trans hmethM'
  obtain ⟨c2, r2, m2, q1, q2, q3, q4, kP, hkP, hkPi⟩ := Cond.selects_spec hsel
  cases hcls.symm.trans q1
  cases (State.methodFound?_of_named hnamed hy).symm.trans q2
  cases hnamed.symm.trans q3
  have hselP : selectMethod e.platform s.vm cellB.cls mk = .method mk := by rw [Launch.admits_selectMethod X.admits]; exact q4
  obtain ⟨vm₁, X₁, hstep₁⟩ := X.invokevirtual hexec hown hlink hnamed hmethM hstM hkP hkPi hy (a := b) (cell := cellB) hcell
    (fun z h => by rw [h] at hobj; cases hobj) hselP hmethM habM hkP hkPi (g := g) hg (argsL := argsL) (rest := rest) (hlen _ hsigM) hstack hdg
  rcases hK m meth c ⟨T.setVm vm₁, locs, cells, slots⟩ { g with stack := rest } (.invokevirtual index) mk (Value.ref b :: argsL).toArray X₁ hg hsize hdg hW (X₁.named hnamed) (hpre vm₁ X₁.warmed) with ⟨v, B, X', hpost, hsteps⟩ | ⟨q, B, X', hpost, hsteps⟩
  · exact Or.inl ⟨v, vm₁, B, X₁.warmed, X', hpost, fun target h => hstep₁ _ fun acts => by rw [doInvoke_state]; exact hsteps.trans h⟩
  · exact Or.inr ⟨q, vm₁, B, X₁.warmed, X', hpost, hstep₁ _ fun acts => by rw [doInvoke_state]; exact hsteps⟩
theorem vx_callS (X : Stand p l e R s m args below meth c T locs cells slots) (hexec : p.tables.exec = Jvm.exec) {own : String} {index : Nat} {y : MethodName} {bytes : ByteArray} {maxL : Nat} {ret : Option FieldType}
    (hown : s.vm.findClass own = some m.cls) (hlink : (Cond.methodLink own index y).before args s = true) (hstat : (Cond.static y).before args s = true) (hinit : (Cond.initialized y.cls).before args s = true)
    (hcode : (Cond.code y bytes maxL ret).before args s = true) (hy : y.cls ≠ "java/lang/invoke/MethodHandle" ∧ y.cls ≠ "java/lang/invoke/VarHandle")
    {W9 : Nat} {Pre : Pt → Array Value → Prop} {Post : Pt → Array Value → Option Value → Pt → Prop} {PostX : Pt → Array Value → Addr → Pt → Prop} (hK : vx_Back l R p e below s args y 3 W9 Pre Post PostX)
    {g : JFrame} (hg : g.method = m) (hsize : g.locals.size = c.maxLocals) {argsL rest : List Value} (hlen : ∀ sig, parseMethodDescriptor y.desc = some sig → argsL.length = sig.parameters.length)
    (hstack : g.stack = argsL.reverse ++ rest) (hW : 2 * g.monitorRoom + (rest.map fun v => v.category).sum ≤ W9) (hdg : decode c.code g.pc = .ok (.invokestatic index, 3))
    (hpre : ∀ vm₁, s.WarmedH vm₁ → Pre ⟨T.setVm vm₁, locs, cells, slots⟩ argsL.toArray) :
    (∃ (v : Option Value) (vm₁ : Vm) (B : Pt), s.WarmedH vm₁ ∧ Stand p l e R s m args below meth c B.U B.locs B.cells B.slots ∧ Post ⟨T.setVm vm₁, locs, cells, slots⟩ argsL.toArray v B ∧
      ∀ target, Steps p.tables e below (B.U.setTop { g with pc := g.pc + 3, stack := v.toList ++ rest }) target → Steps p.tables e below (T.setTop g) target) ∨
    (∃ (q : Addr) (vm₁ : Vm) (B : Pt), s.WarmedH vm₁ ∧ Stand p l e R s m args below meth c B.U B.locs B.cells B.slots ∧ PostX ⟨T.setVm vm₁, locs, cells, slots⟩ argsL.toArray q B ∧
      Steps p.tables e below (T.setTop g) ((B.U.setTop { g with stack := rest }).pushFrame (.throwing q))) := by
  obtain ⟨mk, hnamed⟩ := Cond.code_named hcode
  obtain ⟨methM, cM, hmethM, -, -, -, -, -, -, hsigM⟩ := Cond.code_spec hnamed hcode
  have hstatic : methM.isStatic = true := Cond.static_spec hnamed hmethM hstat
  obtain ⟨kP, hkP, -⟩ := className_of_methodNamed hnamed
  have hinitP : kP.init = .initialized := Cond.initialized_spec (findClass_of_methodNamed hnamed) hkP hinit
  obtain ⟨vm₁, X₁, hstep₁⟩ := X.invokestatic hexec hown hlink hnamed hmethM hstatic hkP hinitP hy (g := g) hg (argsL := argsL) (rest := rest) (hlen _ hsigM) hstack hdg
  rcases hK m meth c ⟨T.setVm vm₁, locs, cells, slots⟩ { g with stack := rest } (.invokestatic index) mk argsL.toArray X₁ hg hsize hdg hW (X₁.named hnamed) (hpre vm₁ X₁.warmed) with ⟨v, B, X', hpost, hsteps⟩ | ⟨q, B, X', hpost, hsteps⟩
  · exact Or.inl ⟨v, vm₁, B, X₁.warmed, X', hpost, fun target h => hstep₁ _ fun acts => by rw [doInvoke_state]; exact hsteps.trans h⟩
  · exact Or.inr ⟨q, vm₁, B, X₁.warmed, X', hpost, hstep₁ _ fun acts => by rw [doInvoke_state]; exact hsteps⟩
end Calls
theorem vx_cls {s : State} {T : State} {vm₁ : Vm} {E : String} {k : ClassId} (hW : s.WarmedH vm₁) (h : (T.setVm vm₁).vm.findClass E = some k) : s.vm.findClass E = some k := by
  have h1 : vm₁.findClass E = some k := h
  rw [hW.alike.findClass] at h1
  exact h1
/-- the method's frame g, with q thrown over it -/
def vx_W (p : Program) (l : Launch) (e : Env) (R : Room) (s : State) (m : MethodId) (args : Array Value) (below : List Frame) (meth : Method) (c : Code) (H : Heap) (locs : List Loc) (cells slots : Nat) (Q : State → Prop) (g : JFrame) (q : Addr) : Prop :=
  ∀ T : State, T.heap = H → Stand p l e R s m args below meth c T locs cells slots → ∃ t, Steps p.tables e below ((T.setTop g).pushFrame (.throwing q)) t ∧ Q t
def vx_Run (p : Program) (l : Launch) (e : Env) (R : Room) (s : State) (m : MethodId) (args : Array Value) (below : List Frame) (meth : Method) (c : Code) (H : Heap) (locs : List Loc) (cells slots mc ms : Nat) (g : JFrame) (rest : List Value) (Qa : State → Outcome → State → Prop) (XC : String → State → State → Prop) (free : Addr → Prop) : Prop :=
  ∀ T : State, T.heap = H → Stand p l e R s m args below meth c T locs cells slots →
    (∃ (v : Option Value) (st₀ t T' : State) (L : List Loc), st₀.heap = H ∧ Stand p l e R s m args below meth c T' (locs ++ L) (cells + mc) (slots + ms) ∧ (∀ q ∈ L, free q.base) ∧ T'.heap = t.heap ∧ T'.vm = t.vm ∧ Qa st₀ (.returned v) t ∧
      Goes p e below T g T' { g with pc := g.pc + 3, stack := v.toList ++ rest }) ∨
    (∃ (q : Addr) (st₀ t T' : State) (L : List Loc) (E : String) (ce : Cell), st₀.heap = H ∧ Stand p l e R s m args below meth c T' (locs ++ L) (cells + mc) (slots + ms) ∧ (∀ z ∈ L, free z.base) ∧ T'.heap = t.heap ∧ T'.vm = t.vm ∧ XC E st₀ t ∧ t.heap[q]? = some ce ∧ ce.vm = .none ∧ s.vm.findClass E = some ce.cls ∧
      Steps p.tables e below (T.setTop g) ((T'.setTop { g with stack := rest }).pushFrame (.throwing q)))
def vx_X {S : Type} (px : S → Prop) (B : String → S → State → Prop) (A : Nat → Prop) : String → State → State → Prop := fun E st t => ∃ u : S, px u ∧ B E u t ∧ va_F A st t
section Runs
variable {p : Program} {l : Launch} {e : Env} {R : Room} {s : State} {m : MethodId} {args : Array Value} {below : List Frame} {meth : Method} {c : Code} {H : Heap} {locs : List Loc} {cells slots : Nat}
variable {y : MethodName} {bytes cc : ByteArray} {maxL nL mc ms n index : Nat} {ret : Option FieldType} {ws : List Cond} {rm : Room} {Pc : Array Value → State → Prop} {Qc : Array Value → State → Outcome → State → Prop} {XC : String → State → State → Prop} {free : Addr → Prop} {Ts : List Cond} {own C : String} {b : Addr} {As rest : List Value} {g : JFrame}
theorem vx_callBack (cb : CallB R s args own index y bytes maxL ret ws rm mc ms n) (hM : vx_Met l y ws rm Pc Qc XC mc ms free) (hbl : FrameBlind Pc) : vx_Back l R p e below s args y 3 8 (PreOf R mc ms Pc) (PostOf Qc mc ms free) (vx_Post XC mc ms free) := by
  obtain ⟨hrc, hrs, hfr, hlo, hws, hcw, -, hini, -⟩ := cb
  exact vx_back (bytes := bytes) (maxL := maxL) (ret := ret) hM hbl hrc hrs hfr hlo hws hcw (fun a' U hW => word_at hW (Or.inl (by first | rfl | simp [Cond.onTables, Cond.keeps, Cond.steady])) hini)
theorem vx_runV (S : CallFix p m c cc nL s args Ts own) (hM : vx_Met l y ws rm Pc Qc XC mc ms free) (cw : CallW R s args own C index y bytes maxL ret ws rm mc ms n) (hp : PreV s H C b Pc As)
    (hg : g.method = m) (hn : As.length = n) (hsize : g.locals.size = nL) (hstack : g.stack = As.reverse ++ .ref b :: rest) (hW : 2 * g.monitorRoom + (rest.map fun v => v.category).sum ≤ 8) (hdg : decode cc g.pc = .ok (.invokevirtual index, 3)) (hf : cells + mc ≤ R.cells ∧ slots + ms ≤ R.slots) :
    vx_Run p l e R s m args below meth c H locs cells slots mc ms g rest (Qc (Value.ref b :: As).toArray) XC free := by
  have hK : vx_Back l R p e below s args y 3 8 (PreOf R mc ms Pc) (PostOf Qc mc ms free) (vx_Post XC mc ms free) := vx_callBack cw.1 hM hp.1
  obtain ⟨⟨-, -, -, -, -, -, hcode, -, hy, hlen, hl⟩, hin, hse⟩ := cw
  obtain ⟨hx, hb, hml, ho, -⟩ := S
  obtain ⟨-, ⟨cellB, hcB, hoB, hclB⟩, hPc⟩ := hp
  intro T hT X
  rcases vx_callV X hx (C := C) (bytes := bytes) (maxL := maxL) (ret := ret) ho hl hin hse hcode hy hK (by rw [hT]; exact hcB) hoB hclB hg (hsize.trans hml.symm) (argsL := As) (rest := rest) (fun sig h => hn.trans (hlen sig h)) hstack hW (by rw [hb]; exact hdg)
    (fun vm₁ hW₁ => ⟨hf.1, hf.2, hPc (T.setVm vm₁) hT hW₁⟩) with ⟨v, vm₁, ⟨U', l2, c2, s2⟩, hW₁, X', ⟨g', mk, t, L, e1, e2, hq, h1, hL, h2, h3⟩, st⟩ | ⟨q, vm₁, ⟨U', l2, c2, s2⟩, hW₁, X', ⟨g', mk, t, L, E, ce, e1, e2, hq, hce, hcv, hcl, h1, hL, h2, h3⟩, st⟩
  · dsimp only [Pt.U, Pt.locs, Pt.cells, Pt.slots] at X' e1 e2 h1 h2 h3 st
    subst h1; subst h2; subst h3
    exact Or.inl ⟨v, (T.setVm vm₁).calling g' mk (Value.ref b :: As).toArray, t, U', L, hT, X', hL, e1, e2, hq, st⟩
  · dsimp only [Pt.U, Pt.locs, Pt.cells, Pt.slots] at X' e1 e2 h1 h2 h3 st hcl
    subst h1; subst h2; subst h3
    exact Or.inr ⟨q, (T.setVm vm₁).calling g' mk (Value.ref b :: As).toArray, t, U', L, E, ce, hT, X', hL, e1, e2, hq, hce, hcv, vx_cls hW₁ hcl, st⟩
theorem vx_runS (S : CallFix p m c cc nL s args Ts own) (hM : vx_Met l y ws rm Pc Qc XC mc ms free) (cw : CallB R s args own index y bytes maxL ret ws rm mc ms n ∧ (Cond.static y).before args s = true) (hp : PreS s H Pc As)
    (hg : g.method = m) (hn : As.length = n) (hsize : g.locals.size = nL) (hstack : g.stack = As.reverse ++ rest) (hW : 2 * g.monitorRoom + (rest.map fun v => v.category).sum ≤ 8) (hdg : decode cc g.pc = .ok (.invokestatic index, 3)) (hf : cells + mc ≤ R.cells ∧ slots + ms ≤ R.slots) :
    vx_Run p l e R s m args below meth c H locs cells slots mc ms g rest (Qc As.toArray) XC free := by
  have hK : vx_Back l R p e below s args y 3 8 (PreOf R mc ms Pc) (PostOf Qc mc ms free) (vx_Post XC mc ms free) := vx_callBack cw.1 hM hp.1
  obtain ⟨⟨-, -, -, -, -, -, hcode, hini, hy, hlen, hl⟩, hstt⟩ := cw
  obtain ⟨hx, hb, hml, ho, -⟩ := S
  intro T hT X
  rcases vx_callS X hx (bytes := bytes) (maxL := maxL) (ret := ret) ho hl hstt hini hcode hy hK hg (hsize.trans hml.symm) (argsL := As) (rest := rest) (fun sig h => hn.trans (hlen sig h)) hstack hW (by rw [hb]; exact hdg)
    (fun vm₁ hW₁ => ⟨hf.1, hf.2, hp.2 (T.setVm vm₁) hT hW₁⟩) with ⟨v, vm₁, ⟨U', l2, c2, s2⟩, hW₁, X', ⟨g', mk, t, L, e1, e2, hq, h1, hL, h2, h3⟩, st⟩ | ⟨q, vm₁, ⟨U', l2, c2, s2⟩, hW₁, X', ⟨g', mk, t, L, E, ce, e1, e2, hq, hce, hcv, hcl, h1, hL, h2, h3⟩, st⟩
  · dsimp only [Pt.U, Pt.locs, Pt.cells, Pt.slots] at X' e1 e2 h1 h2 h3 st
    subst h1; subst h2; subst h3
    exact Or.inl ⟨v, (T.setVm vm₁).calling g' mk As.toArray, t, U', L, hT, X', hL, e1, e2, hq, st⟩
  · dsimp only [Pt.U, Pt.locs, Pt.cells, Pt.slots] at X' e1 e2 h1 h2 h3 st hcl
    subst h1; subst h2; subst h3
    exact Or.inr ⟨q, (T.setVm vm₁).calling g' mk As.toArray, t, U', L, E, ce, hT, X', hL, e1, e2, hq, hce, hcv, vx_cls hW₁ hcl, st⟩
end Runs
section Rows
variable {p : Program} {l : Launch} {e : Env} {R : Room} {s : State} {m : MethodId} {args : Array Value} {below : List Frame} {meth : Method} {c : Code} {H : Heap} {locs : List Loc} {cells slots : Nat} {Q : State → Prop}
variable {mc ms : Nat} {free : Addr → Prop} {A0 A1 : Nat → Prop} {H0 : Heap} {a : Array Value} {pc : Nat} {ls : Array Slot} {st0 rest : List Value}
theorem vx_keep {st₀ t T' : State} {L : List Loc} (h0 : st₀.heap = H) (e1 : T'.heap = t.heap) (hS : va_S A0 H0 H locs) (hA : ∀ q, q < H.size → A1 q → A0 q) (hf : ∀ q, free q → A0 q) (hL : ∀ q ∈ L, free q.base) (hF : va_F A1 st₀ t) :
    H.size ≤ T'.heap.size ∧ (∀ q : Nat, q < H.size → ¬ A1 q → T'.heap[q]? = H[q]?) ∧ va_S A0 H0 T'.heap (locs ++ L) := by
  obtain ⟨hz, hk⟩ := hF
  rw [h0] at hz hk
  exact ⟨by rw [e1]; exact hz, fun q h1 h2 => by rw [e1]; exact hk q h1 h2,
    ⟨Nat.le_trans hS.1 (by rw [e1]; exact hz), fun q h1 h2 => by rw [e1, hk q (Nat.lt_of_lt_of_le h1 hS.1) (fun z => h2 (hA q (Nat.lt_of_lt_of_le h1 hS.1) z))]; exact hS.2.1 q h1 h2, fun q hq => by
      rcases List.mem_append.mp hq with h | h
      · exact hS.2.2 q h
      · exact hf _ (hL q h)⟩⟩
theorem vx_calli {S SX : Type} {post : Int32 → S → Prop} {px : SX → Prop} {B : S → State → Prop} {BX : String → SX → State → Prop} {AX : Nat → Prop} (hr : vx_Run p l e R s m args below meth c H locs cells slots mc ms (F0 m pc ls st0) rest (va_Qi post B A1 a) (vx_X px BX AX) free) (hS : va_S A0 H0 H locs) (hA : ∀ q, q < H.size → A1 q → A0 q) (hf : ∀ q, free q → A0 q) (hAX : ∀ q, q < H.size → AX q → A0 q)
    (kx : ∀ (E : String) (ce : Cell) (q9 : Addr) (u : SX) (t : State) (H1 : Heap) (locs1 : List Loc), t.heap = H1 → s.vm.Alike t.vm → px u → BX E u t → H.size ≤ H1.size → (∀ q : Nat, q < H.size → ¬ AX q → H1[q]? = H[q]?) → va_S A0 H0 H1 locs1 → H1[q9]? = some ce → ce.vm = .none → s.vm.findClass E = some ce.cls → vx_W p l e R s m args below meth c H1 locs1 (cells + mc) (slots + ms) Q (F0 m pc ls rest) q9)
    (kk : ∀ (r : Int32) (u : S) (t : State) (H1 : Heap) (locs1 : List Loc), t.heap = H1 → s.vm.Alike t.vm → post r u → B u t → H.size ≤ H1.size → (∀ q : Nat, q < H.size → ¬ A1 q → H1[q]? = H[q]?) → va_S A0 H0 H1 locs1 → W p l e R s m args below meth c H1 locs1 (cells + mc) (slots + ms) Q (F0 m (pc + 3) ls (.int r :: rest))) : W p l e R s m args below meth c H locs cells slots Q (F0 m pc ls st0) := by
  intro T hT X
  rcases hr T hT X with ⟨v, st₀, t, T', L, h0, X', hL, e1, e2, ⟨⟨r, u, hv, hp, hb⟩, hF⟩, st⟩ | ⟨q, st₀, t, T', L, E, ce, h0, X', hL, e1, e2, ⟨u, hp, hb, hF⟩, hce, hcv, hcl, st⟩
  · cases hv
    obtain ⟨k1, k2, k3⟩ := vx_keep h0 e1 hS hA hf hL hF
    obtain ⟨t2, a1, b1⟩ := kk r u t T'.heap (locs ++ L) e1.symm (by rw [← e2]; exact X'.warmed.alike) hp hb k1 k2 k3 T' rfl X'
    exact ⟨t2, st t2 a1, b1⟩
  · obtain ⟨k1, k2, k3⟩ := vx_keep h0 e1 hS hAX hf hL hF
    obtain ⟨t2, a1, b1⟩ := kx E ce q u t T'.heap (locs ++ L) e1.symm (by rw [← e2]; exact X'.warmed.alike) hp hb k1 k2 k3 (by rw [e1]; exact hce) hcv hcl T' rfl X'
    exact ⟨t2, st.trans a1, b1⟩
theorem vx_calll {S SX : Type} {post : Int64 → S → Prop} {px : SX → Prop} {B : S → State → Prop} {BX : String → SX → State → Prop} {AX : Nat → Prop} (hr : vx_Run p l e R s m args below meth c H locs cells slots mc ms (F0 m pc ls st0) rest (va_Ql post B A1 a) (vx_X px BX AX) free) (hS : va_S A0 H0 H locs) (hA : ∀ q, q < H.size → A1 q → A0 q) (hf : ∀ q, free q → A0 q) (hAX : ∀ q, q < H.size → AX q → A0 q)
    (kx : ∀ (E : String) (ce : Cell) (q9 : Addr) (u : SX) (t : State) (H1 : Heap) (locs1 : List Loc), t.heap = H1 → s.vm.Alike t.vm → px u → BX E u t → H.size ≤ H1.size → (∀ q : Nat, q < H.size → ¬ AX q → H1[q]? = H[q]?) → va_S A0 H0 H1 locs1 → H1[q9]? = some ce → ce.vm = .none → s.vm.findClass E = some ce.cls → vx_W p l e R s m args below meth c H1 locs1 (cells + mc) (slots + ms) Q (F0 m pc ls rest) q9)
    (kk : ∀ (r : Int64) (u : S) (t : State) (H1 : Heap) (locs1 : List Loc), t.heap = H1 → s.vm.Alike t.vm → post r u → B u t → H.size ≤ H1.size → (∀ q : Nat, q < H.size → ¬ A1 q → H1[q]? = H[q]?) → va_S A0 H0 H1 locs1 → W p l e R s m args below meth c H1 locs1 (cells + mc) (slots + ms) Q (F0 m (pc + 3) ls (.long r :: rest))) : W p l e R s m args below meth c H locs cells slots Q (F0 m pc ls st0) := by
  intro T hT X
  rcases hr T hT X with ⟨v, st₀, t, T', L, h0, X', hL, e1, e2, ⟨⟨r, u, hv, hp, hb⟩, hF⟩, st⟩ | ⟨q, st₀, t, T', L, E, ce, h0, X', hL, e1, e2, ⟨u, hp, hb, hF⟩, hce, hcv, hcl, st⟩
  · cases hv
    obtain ⟨k1, k2, k3⟩ := vx_keep h0 e1 hS hA hf hL hF
    obtain ⟨t2, a1, b1⟩ := kk r u t T'.heap (locs ++ L) e1.symm (by rw [← e2]; exact X'.warmed.alike) hp hb k1 k2 k3 T' rfl X'
    exact ⟨t2, st t2 a1, b1⟩
  · obtain ⟨k1, k2, k3⟩ := vx_keep h0 e1 hS hAX hf hL hF
    obtain ⟨t2, a1, b1⟩ := kx E ce q u t T'.heap (locs ++ L) e1.symm (by rw [← e2]; exact X'.warmed.alike) hp hb k1 k2 k3 (by rw [e1]; exact hce) hcv hcl T' rfl X'
    exact ⟨t2, st.trans a1, b1⟩
theorem vx_callf {S SX : Type} {post : UInt32 → S → Prop} {px : SX → Prop} {B : S → State → Prop} {BX : String → SX → State → Prop} {AX : Nat → Prop} (hr : vx_Run p l e R s m args below meth c H locs cells slots mc ms (F0 m pc ls st0) rest (va_Qf post B A1 a) (vx_X px BX AX) free) (hS : va_S A0 H0 H locs) (hA : ∀ q, q < H.size → A1 q → A0 q) (hf : ∀ q, free q → A0 q) (hAX : ∀ q, q < H.size → AX q → A0 q)
    (kx : ∀ (E : String) (ce : Cell) (q9 : Addr) (u : SX) (t : State) (H1 : Heap) (locs1 : List Loc), t.heap = H1 → s.vm.Alike t.vm → px u → BX E u t → H.size ≤ H1.size → (∀ q : Nat, q < H.size → ¬ AX q → H1[q]? = H[q]?) → va_S A0 H0 H1 locs1 → H1[q9]? = some ce → ce.vm = .none → s.vm.findClass E = some ce.cls → vx_W p l e R s m args below meth c H1 locs1 (cells + mc) (slots + ms) Q (F0 m pc ls rest) q9)
    (kk : ∀ (r : UInt32) (u : S) (t : State) (H1 : Heap) (locs1 : List Loc), t.heap = H1 → s.vm.Alike t.vm → post r u → B u t → H.size ≤ H1.size → (∀ q : Nat, q < H.size → ¬ A1 q → H1[q]? = H[q]?) → va_S A0 H0 H1 locs1 → W p l e R s m args below meth c H1 locs1 (cells + mc) (slots + ms) Q (F0 m (pc + 3) ls (.float r :: rest))) : W p l e R s m args below meth c H locs cells slots Q (F0 m pc ls st0) := by
  intro T hT X
  rcases hr T hT X with ⟨v, st₀, t, T', L, h0, X', hL, e1, e2, ⟨⟨r, u, hv, hp, hb⟩, hF⟩, st⟩ | ⟨q, st₀, t, T', L, E, ce, h0, X', hL, e1, e2, ⟨u, hp, hb, hF⟩, hce, hcv, hcl, st⟩
  · cases hv
    obtain ⟨k1, k2, k3⟩ := vx_keep h0 e1 hS hA hf hL hF
    obtain ⟨t2, a1, b1⟩ := kk r u t T'.heap (locs ++ L) e1.symm (by rw [← e2]; exact X'.warmed.alike) hp hb k1 k2 k3 T' rfl X'
    exact ⟨t2, st t2 a1, b1⟩
  · obtain ⟨k1, k2, k3⟩ := vx_keep h0 e1 hS hAX hf hL hF
    obtain ⟨t2, a1, b1⟩ := kx E ce q u t T'.heap (locs ++ L) e1.symm (by rw [← e2]; exact X'.warmed.alike) hp hb k1 k2 k3 (by rw [e1]; exact hce) hcv hcl T' rfl X'
    exact ⟨t2, st.trans a1, b1⟩
theorem vx_calld {S SX : Type} {post : UInt64 → S → Prop} {px : SX → Prop} {B : S → State → Prop} {BX : String → SX → State → Prop} {AX : Nat → Prop} (hr : vx_Run p l e R s m args below meth c H locs cells slots mc ms (F0 m pc ls st0) rest (va_Qd post B A1 a) (vx_X px BX AX) free) (hS : va_S A0 H0 H locs) (hA : ∀ q, q < H.size → A1 q → A0 q) (hf : ∀ q, free q → A0 q) (hAX : ∀ q, q < H.size → AX q → A0 q)
    (kx : ∀ (E : String) (ce : Cell) (q9 : Addr) (u : SX) (t : State) (H1 : Heap) (locs1 : List Loc), t.heap = H1 → s.vm.Alike t.vm → px u → BX E u t → H.size ≤ H1.size → (∀ q : Nat, q < H.size → ¬ AX q → H1[q]? = H[q]?) → va_S A0 H0 H1 locs1 → H1[q9]? = some ce → ce.vm = .none → s.vm.findClass E = some ce.cls → vx_W p l e R s m args below meth c H1 locs1 (cells + mc) (slots + ms) Q (F0 m pc ls rest) q9)
    (kk : ∀ (r : UInt64) (u : S) (t : State) (H1 : Heap) (locs1 : List Loc), t.heap = H1 → s.vm.Alike t.vm → post r u → B u t → H.size ≤ H1.size → (∀ q : Nat, q < H.size → ¬ A1 q → H1[q]? = H[q]?) → va_S A0 H0 H1 locs1 → W p l e R s m args below meth c H1 locs1 (cells + mc) (slots + ms) Q (F0 m (pc + 3) ls (.double r :: rest))) : W p l e R s m args below meth c H locs cells slots Q (F0 m pc ls st0) := by
  intro T hT X
  rcases hr T hT X with ⟨v, st₀, t, T', L, h0, X', hL, e1, e2, ⟨⟨r, u, hv, hp, hb⟩, hF⟩, st⟩ | ⟨q, st₀, t, T', L, E, ce, h0, X', hL, e1, e2, ⟨u, hp, hb, hF⟩, hce, hcv, hcl, st⟩
  · cases hv
    obtain ⟨k1, k2, k3⟩ := vx_keep h0 e1 hS hA hf hL hF
    obtain ⟨t2, a1, b1⟩ := kk r u t T'.heap (locs ++ L) e1.symm (by rw [← e2]; exact X'.warmed.alike) hp hb k1 k2 k3 T' rfl X'
    exact ⟨t2, st t2 a1, b1⟩
  · obtain ⟨k1, k2, k3⟩ := vx_keep h0 e1 hS hAX hf hL hF
    obtain ⟨t2, a1, b1⟩ := kx E ce q u t T'.heap (locs ++ L) e1.symm (by rw [← e2]; exact X'.warmed.alike) hp hb k1 k2 k3 (by rw [e1]; exact hce) hcv hcl T' rfl X'
    exact ⟨t2, st.trans a1, b1⟩
theorem vx_callv {S SX : Type} {post : S → Prop} {px : SX → Prop} {B : S → State → Prop} {BX : String → SX → State → Prop} {AX : Nat → Prop} (hr : vx_Run p l e R s m args below meth c H locs cells slots mc ms (F0 m pc ls st0) rest (va_Qv post B A1 a) (vx_X px BX AX) free) (hS : va_S A0 H0 H locs) (hA : ∀ q, q < H.size → A1 q → A0 q) (hf : ∀ q, free q → A0 q) (hAX : ∀ q, q < H.size → AX q → A0 q)
    (kx : ∀ (E : String) (ce : Cell) (q9 : Addr) (u : SX) (t : State) (H1 : Heap) (locs1 : List Loc), t.heap = H1 → s.vm.Alike t.vm → px u → BX E u t → H.size ≤ H1.size → (∀ q : Nat, q < H.size → ¬ AX q → H1[q]? = H[q]?) → va_S A0 H0 H1 locs1 → H1[q9]? = some ce → ce.vm = .none → s.vm.findClass E = some ce.cls → vx_W p l e R s m args below meth c H1 locs1 (cells + mc) (slots + ms) Q (F0 m pc ls rest) q9)
    (kk : ∀ (u : S) (t : State) (H1 : Heap) (locs1 : List Loc), t.heap = H1 → s.vm.Alike t.vm → post u → B u t → H.size ≤ H1.size → (∀ q : Nat, q < H.size → ¬ A1 q → H1[q]? = H[q]?) → va_S A0 H0 H1 locs1 → W p l e R s m args below meth c H1 locs1 (cells + mc) (slots + ms) Q (F0 m (pc + 3) ls (rest))) : W p l e R s m args below meth c H locs cells slots Q (F0 m pc ls st0) := by
  intro T hT X
  rcases hr T hT X with ⟨v, st₀, t, T', L, h0, X', hL, e1, e2, ⟨⟨u, hv, hp, hb⟩, hF⟩, st⟩ | ⟨q, st₀, t, T', L, E, ce, h0, X', hL, e1, e2, ⟨u, hp, hb, hF⟩, hce, hcv, hcl, st⟩
  · cases hv
    obtain ⟨k1, k2, k3⟩ := vx_keep h0 e1 hS hA hf hL hF
    obtain ⟨t2, a1, b1⟩ := kk u t T'.heap (locs ++ L) e1.symm (by rw [← e2]; exact X'.warmed.alike) hp hb k1 k2 k3 T' rfl X'
    exact ⟨t2, st t2 a1, b1⟩
  · obtain ⟨k1, k2, k3⟩ := vx_keep h0 e1 hS hAX hf hL hF
    obtain ⟨t2, a1, b1⟩ := kx E ce q u t T'.heap (locs ++ L) e1.symm (by rw [← e2]; exact X'.warmed.alike) hp hb k1 k2 k3 (by rw [e1]; exact hce) hcv hcl T' rfl X'
    exact ⟨t2, st.trans a1, b1⟩
/-- caught by the row x of this method's table; the rows ahead don't take it -/
theorem vx_catch {own name : String} {E : String} {ce : Cell} {q : Addr} (hown : s.vm.findClass own = some m.cls) (pre : List ExceptionTableEntry) (x : ExceptionTableEntry) (suf : List ExceptionTableEntry) (hsplit : c.exceptionTable.toList = pre ++ x :: suf)
    (hpass : ∀ z ∈ pre, covers z pc = false ∨ (z.catchType ≠ 0 ∧ ∃ nm : String, (Cond.classLink own z.catchType nm).before args s = true ∧ va_Nc E nm s)) (hx : covers x pc = true) (h0 : x.catchType ≠ 0)
    (hlink : (Cond.classLink own x.catchType name).before args s = true) (hcast : (Cond.castable E name).before args s = true) (hcell : H[q]? = some ce) (hv : ce.vm = .none) (hcl : s.vm.findClass E = some ce.cls)
    (kk : W p l e R s m args below meth c H locs cells slots Q (F0 m x.handlerPc ls [.ref q])) : vx_W p l e R s m args below meth c H locs cells slots Q (F0 m pc ls rest) q := by
  intro T hT X
  have hpl : e.platform.magicAccessors = ({} : Platform).magicAccessors := by rw [X.admits.platform]
  obtain ⟨c3, c4, hc3, hc4, hasg⟩ := Cond.castable_spec hcast
  cases Option.some.inj (hc3.symm.trans hcl)
  obtain ⟨c5, hc5, hcl5⟩ := Cond.classLink_spec hown hlink e.platform hpl
  cases Option.some.inj (hc4.symm.trans hc5)
  obtain ⟨vm', X', st⟩ := X.thenCaughtThrough q (g := F0 m pc ls rest) rfl (Steps.refl _) (by rw [hT]; exact hcell) (by rw [hv]; rfl) (by obtain ⟨k9, h9, -⟩ := Vm.findClass_spec hcl; exact ⟨k9, h9⟩) pre x suf hsplit
    (fun z hz => by
      rcases hpass z hz with h | ⟨hz0, nm, hl1, hn1⟩
      · exact Or.inl h
      · obtain ⟨c6, hc6, hcl6⟩ := Cond.classLink_spec hown hl1 e.platform hpl
        obtain ⟨a8, b8, h1, h2, h3⟩ := hn1
        cases Option.some.inj (h1.symm.trans hcl)
        cases Option.some.inj (h2.symm.trans hc6)
        exact Or.inr ⟨hz0, _, hcl6, h3⟩) hx (Or.inr ⟨h0, c4, hcl5, hasg⟩)
  obtain ⟨t, a1, b1⟩ := kk (T.setVm vm') hT X'
  exact ⟨t, st.trans a1, b1⟩
end Rows
section Ends
variable {p : Program} {l : Launch} {e : Env} {R : Room} {s : State} {m : MethodId} {args : Array Value} {below : List Frame} {meth : Method} {c : Code} {H : Heap} {locs : List Loc} {cells slots : Nat} {Q : State → Prop}
variable {mc ms : Nat} {free : Addr → Prop} {A0 A1 : Nat → Prop} {H0 : Heap} {a : Array Value} {ls : Array Slot} {st0 rest : List Value}
variable {Qc : Array Value → State → Outcome → State → Prop} {XC : String → State → State → Prop}
/-- what a body that may throw owes at its end -/
def vx_MQ (below : List Frame) (Qc : Array Value → State → Outcome → State → Prop) (XC : String → State → State → Prop) (a : Array Value) (s : State) (mc ms : Nat) (free : Addr → Prop) : State → Prop := fun t =>
  ∃ o, t.status = .running ∧ Ended t below o ∧ vx_Q Qc XC mc ms free a s o t
theorem vx_ret {g : JFrame} {mc ms : Nat} (k : W p l e R s m args below meth c H locs cells slots (MQ below Qc args s mc ms free) g) : W p l e R s m args below meth c H locs cells slots (vx_MQ below Qc XC args s mc ms free) g := by
  intro T hT X
  obtain ⟨t, a1, o, b1, b2, b3, b4⟩ := k T hT X
  exact ⟨t, a1, o, b1, b2, Or.inl ⟨b3, b4⟩⟩
/-- not caught here: it goes on to the caller -/
theorem vx_widen {g : JFrame} {q : Addr} {k n : Nat} (h1 : cells ≤ k) (h2 : slots ≤ n) (kk : vx_W p l e R s m args below meth c H locs k n Q g q) : vx_W p l e R s m args below meth c H locs cells slots Q g q := fun T hT X => kk T hT (stand_widen X h1 h2)
theorem vx_out {pc : Nat} {E : String} {ce : Cell} {q : Addr} {mc ms : Nat} (hout : ∀ x ∈ c.exceptionTable.toList, covers x pc = false) (hlocks : meth.locks = false) (hcell : H[q]? = some ce) (hv : ce.vm = .none) (hcl : s.vm.findClass E = some ce.cls)
    (hx : ∀ t : State, t.heap = H → s.vm.Alike t.vm → XC E s t) (hf : ∀ z ∈ locs, free z.base) (hc : cells ≤ mc) (hs : slots ≤ ms) :
    vx_W p l e R s m args below meth c H locs cells slots (vx_MQ below Qc XC args s mc ms free) (F0 m pc ls rest) q := by
  intro T hT X
  obtain ⟨st1, hrun, hend, hW, hsm⟩ := X.leaveThrown q (g := F0 m pc ls rest) rfl rfl rfl hout hlocks
  have hcell9 : (T.setFrames (.throwing q :: below)).heap[q]? = some ce := by
    show T.heap[q]? = some ce
    rw [hT]; exact hcell
  exact ⟨_, st1, .threw q, hrun, hend, Or.inr ⟨q, rfl, E, ce, locs, hx _ hT hW.alike, hcell9, hv, hcl, hW, hsm.mono hc hs, hf⟩⟩
theorem vx_frame {U : State} {k n : Nat} (h : s.sameButNew ({ U with vm := s.vm } : State) locs k n) : s.heap.size ≤ U.heap.size ∧ ∀ q : Nat, q < s.heap.size → (∀ z ∈ locs, z.base ≠ q) → U.heap[q]? = s.heap[q]? := by
  obtain ⟨-, h2, -, -, -, h6⟩ := h
  refine ⟨h2, fun q hq hz => ?_⟩
  obtain ⟨c9, e1, e2, e3, e4⟩ := h6 q _ (Array.getElem?_eq_getElem hq)
  have hs : c9.slots = (s.heap[q]).slots := Array.ext_getElem? fun i => e4 i fun hm => hz _ hm rfl
  have h9 : c9 = s.heap[q] := by
    rw [hs] at e2
    exact e2
  have e5 : U.heap[q]? = some c9 := e1
  rw [e5, h9, Array.getElem?_eq_getElem hq]
/-- the words of a throw but the four that speak of the heap -/
def vx_no (w : Cond) : Bool := decide (w ≠ .isRef (.static Bundle.tN "UNASSIGNED_STACK" Bundle.steD)) && decide (w ≠ .isRef (.static Bundle.tN "SUPPRESSED_SENTINEL" Bundle.listD)) && decide (w ≠ .laysStatic Bundle.tN "UNASSIGNED_STACK" Bundle.steD) && decide (w ≠ .laysStatic Bundle.tN "SUPPRESSED_SENTINEL" Bundle.listD)
def vx_at0 (own : String) (ic : Nat) (X : String) (names : List String) : List Cond := (Bundle.ownAtoms0 own ic X names).filter vx_no
def vx_atS (own : String) (ic : Nat) (X : String) (names : List String) : List Cond := (Bundle.ownAtoms own ic X names).filter vx_no
/-- a word that the tables alone decide, or a good one -/
def vx_ot (w : Cond) : Bool := w.onTables || goodWord w
theorem vx_ot_at {args a' : Array Value} {s U : State} {w : Cond} (hW : s.WarmedH U.vm) (hvm : s.vm = U.vm) (hg : vx_ot w = true) (h : w.before args s = true) : w.before a' U = true := by
  simp only [vx_ot, Bool.or_eq_true] at hg
  rcases hg with hg | hg
  · exact va_tabs hg hvm h
  · exact word_at hW (good_of_word hg) h
/-- a list's words: the good ones out of the method's own list, the others by premises of their own -/
theorem vx_hat {args : Array Value} {s : State} {L B : List Cond} (h1 : ∀ w ∈ L.filter goodWord, w.before args s = true) (h2 : ∀ w ∈ L.filter (fun w => !goodWord w), w ∈ B) (h3 : ∀ w ∈ B, w.before args s = true) : ∀ w ∈ L, w.before args s = true := by
  intro w hw
  by_cases g : goodWord w = true
  · exact h1 w (List.mem_filter.mpr ⟨hw, g⟩)
  · refine h3 w (h2 w (List.mem_filter.mpr ⟨hw, ?_⟩))
    show (!goodWord w) = true
    cases hgw : goodWord w
    · rfl
    · exact absurd hgw g
theorem vx_c {args : Array Value} {s : State} {w : Cond} {B : List Cond} (h : w.before args s = true) (t : ∀ w ∈ B, w.before args s = true) : ∀ w' ∈ w :: B, w'.before args s = true := fun w' h' => (List.mem_cons.mp h').elim (fun e => by rw [e]; exact h) (t w')
theorem vx_n {args : Array Value} {s : State} : ∀ w ∈ ([] : List Cond), w.before args s = true := fun _ h => nomatch h
theorem vx_own {args : Array Value} {s : State} {L : List Cond} (h1 : ∀ w ∈ L.filter vx_no, w.before args s = true)
    (hU : (Cond.isRef (.static Bundle.tN "UNASSIGNED_STACK" Bundle.steD)).before args s = true) (hN : (Cond.isRef (.static Bundle.tN "SUPPRESSED_SENTINEL" Bundle.listD)).before args s = true)
    (lU : (Cond.laysStatic Bundle.tN "UNASSIGNED_STACK" Bundle.steD).before args s = true) (lN : (Cond.laysStatic Bundle.tN "SUPPRESSED_SENTINEL" Bundle.listD).before args s = true) : ∀ w ∈ L, w.before args s = true := by
  intro w hw
  by_cases e1 : w = .isRef (.static Bundle.tN "UNASSIGNED_STACK" Bundle.steD)
  · rw [e1]; exact hU
  · by_cases e2 : w = .isRef (.static Bundle.tN "SUPPRESSED_SENTINEL" Bundle.listD)
    · rw [e2]; exact hN
    · by_cases e3 : w = .laysStatic Bundle.tN "UNASSIGNED_STACK" Bundle.steD
      · rw [e3]; exact lU
      · by_cases e4 : w = .laysStatic Bundle.tN "SUPPRESSED_SENTINEL" Bundle.listD
        · rw [e4]; exact lN
        · exact h1 w (List.mem_filter.mpr ⟨hw, by unfold vx_no; rw [decide_eq_true e1, decide_eq_true e2, decide_eq_true e3, decide_eq_true e4]; rfl⟩)
/-- where a static field lies, its class's statics cell in H -/
def vx_L (C n d : String) (A : Nat → Prop) (U : State) (H : Heap) : Prop := ∃ (c : ClassId) (k : Class) (i : Nat) (f : Field) (a : Nat) (cell : Cell), U.vm.findClass C = some c ∧ U.fieldFound? C n d = some (c, k, i, f) ∧ f.isStatic = true ∧ k.statics = some a ∧ H[a]? = some cell ∧ cell.vm.isStatics = true ∧ cell.cls = c ∧ f.slot < cell.slots.size ∧ k.staticTypes[f.slot]? = some f.type ∧ ¬ A a
theorem vx_L.moved {C n d : String} {A : Nat → Prop} {u U : State} {H : Heap} (hvm : u.vm.Alike U.vm) (h : vx_L C n d A u H) : vx_L C n d A U H := by
  obtain ⟨c, k, i, f, a, cell, h1, h2, h3, h4, h5, h6, h7, h8, h9, h10⟩ := h
  obtain ⟨k', hi', he⟩ := State.fieldFound?_setVm hvm h2
  exact ⟨c, k', i, f, a, cell, by rw [hvm.findClass]; exact h1, hi', h3, by rw [he]; exact h4, h5, h6, h7, h8, by rw [he]; exact h9, h10⟩
theorem vx_L.kept {C n d : String} {A : Nat → Prop} {U : State} {H H1 : Heap} (h : vx_L C n d A U H) (hq : ∀ a : Nat, a < H.size → ¬ A a → H1[a]? = H[a]?) : vx_L C n d A U H1 := by
  obtain ⟨c, k, i, f, a, cell, h1, h2, h3, h4, h5, h6, h7, h8, h9, h10⟩ := h
  exact ⟨c, k, i, f, a, cell, h1, h2, h3, h4, by rw [hq a (Array.getElem?_eq_some_iff.mp h5).1 h10]; exact h5, h6, h7, h8, h9, h10⟩
theorem vx_L.narrow {C n d : String} {A B : Nat → Prop} {U : State} {H : Heap} (h : vx_L C n d A U H) (hAB : ∀ q, B q → A q) : vx_L C n d B U H := by
  obtain ⟨c, k, i, f, a, cell, h1, h2, h3, h4, h5, h6, h7, h8, h9, h10⟩ := h
  exact ⟨c, k, i, f, a, cell, h1, h2, h3, h4, h5, h6, h7, h8, h9, fun z => h10 (hAB _ z)⟩
theorem vx_L.word {C n d : String} {A : Nat → Prop} {s : State} {args : Array Value} (h : vx_L C n d A s s.heap) : (Cond.laysStatic C n d).before args s = true := by
  obtain ⟨c, k, i, f, a, cell, h1, h2, h3, h4, h5, h6, h7, h8, h9, -⟩ := h
  show (Cond.laysStatic C n d).holds args s none s [] = true
  exact Cond.laysStatic_of h1 h2 h3 h4 h5 h6 h7 h8 h9
/-- .. and what it holds: null or some reference -/
def vx_Zq (C n d : String) (A : Nat → Prop) (U : State) (H : Heap) : Prop := va_Zq C n d A U H ∧ vx_L C n d A U H
theorem vx_Zq.moved {C n d : String} {A : Nat → Prop} {u U : State} {H : Heap} (hvm : u.vm.Alike U.vm) (h : vx_Zq C n d A u H) : vx_Zq C n d A U H := ⟨va_Zq.moved hvm h.1, vx_L.moved hvm h.2⟩
theorem vx_Zq.kept {C n d : String} {A : Nat → Prop} {U : State} {H H1 : Heap} (h : vx_Zq C n d A U H) (hq : ∀ a : Nat, a < H.size → ¬ A a → H1[a]? = H[a]?) : vx_Zq C n d A U H1 := ⟨va_Zq.kept h.1 hq, vx_L.kept h.2 hq⟩
theorem vx_Zq.narrow {C n d : String} {A B : Nat → Prop} {U : State} {H : Heap} (h : vx_Zq C n d A U H) (hAB : ∀ q, B q → A q) : vx_Zq C n d B U H := ⟨va_Zq.narrow h.1 hAB, vx_L.narrow h.2 hAB⟩
theorem vx_Zqof {args : Array Value} {s : State} {C n d : String} {A : Nat → Prop} (hl : (Cond.laysStatic C n d).before args s = true) (hini : (Cond.initialized C).before args s = true) (h : (Cond.isRef (.static C n d)).before args s = true) (hA : ∀ a : Nat, a < s.heap.size → ¬ A a) : vx_Zq C n d A s s.heap := by
  refine ⟨va_Zqof hl hini h hA, ?_⟩
  obtain ⟨c, k, i, f, a, cell, h1, h2, h3, h4, h5, h6, h7, h8, h9⟩ := Cond.laysStatic_spec hl
  exact ⟨c, k, i, f, a, cell, h1, h2, h3, h4, h5, h6, h7, h8, h9, hA a (Array.getElem?_eq_some_iff.mp h5).1⟩
theorem vx_isRef {C n d : String} {v : Value} {A : Nat → Prop} {s : State} {args : Array Value} (h : va_Z C n d v A s s.heap) (hv : v.isRef = true) : (Cond.isRef (.static C n d)).before args s = true := by
  obtain ⟨cf, kf, fi, f, a, cell, h1, h2, h3, h4, h5, h6, h7, -⟩ := h
  have he : (Term.static C n d).eval args s none [] s = some v := by
    simp [Term.eval, State.fieldNamed?, h1, h2, h4, h5, h6, h7]
  simp only [Cond.before, Cond.holds, Cond.value, he]
  cases v <;> simp_all [Value.isRef]
theorem vx_isRefq {C n d : String} {A : Nat → Prop} {s : State} {args : Array Value} (h : va_Zq C n d A s s.heap) : (Cond.isRef (.static C n d)).before args s = true := by
  rcases h with h | ⟨t, h⟩
  · exact vx_isRef h rfl
  · exact vx_isRef h rfl
/-- the same frame, seen from here: as if the method were called anew in this heap -/
theorem vx_rebase {T : State} (X : Stand p l e R s m args below meth c T locs cells slots) {R' : Room} (hf : R'.frames ≤ R.frames) (hl : R'.locals ≤ R.locals) (hc : cells + R'.cells ≤ R.cells) (hs : slots + R'.slots ≤ R.slots) :
    Stand p l e R' ((T.setVm s.vm).setFrames (.invoking m args :: below)) m args below meth c T [] 0 0 := by
  have htop : (T.setVm s.vm).topJava?.isSome := X.here.top
  have hF : ((T.setVm s.vm).setFrames (.invoking m args :: below)).frames = .invoking m args :: below := State.frames_setFrames _ (State.cur_lt_of_top htop)
  obtain ⟨g₀, hg0⟩ := Option.isSome_iff_exists.mp htop
  obtain ⟨r, hr⟩ := State.topJava?_eq_some.mp hg0
  have hl9 : e.platform.stackLimits (T.setVm s.vm).me = e.platform.stackLimits s.me := X.limits
  have hb9 : (T.setVm s.vm).me.stackBytes = s.me.stackBytes := X.bytes
  refine ⟨X.admits, X.cas, X.clock, hF, ?_, X.hears, X.method, X.code, X.here, X.tail, X.warmed, ?_, ?_, ?_⟩
  · have h := X.room
    have hU : ((T.setVm s.vm).setFrames (.invoking m args :: below)).localsInUse = s.localsInUse := by
      rw [State.localsInUse_invoking hF (meth := meth) (c := c) X.method X.code, State.localsInUse_invoking X.frames X.method X.code]
    simp only [State.hasRoom, Bool.and_eq_true, decide_eq_true_eq] at h ⊢
    obtain ⟨⟨⟨⟨h1, h2, h3, h4, h5, h6⟩, h7⟩, h8⟩, h9⟩ := h
    rw [X.frames, List.length_cons] at h2 h3
    have q1 := X.heapSize
    have q2 := X.used
    simp only [hF, hU, List.length_cons, State.stackLimits_setFrames, State.stackBytes_setFrames, hl9, hb9]
    refine ⟨⟨⟨⟨by omega, by omega, by omega, by omega, by omega, h6⟩, ?_⟩, ?_⟩, X.book⟩
    · show T.heap.size + R'.cells ≤ e.platform.maxCells
      omega
    · show T.slotsUsed + R'.slots ≤ e.platform.maxSlots
      omega
  · rw [State.stackLimits_setFrames]; rfl
  · rw [State.stackBytes_setFrames]; rfl
  · refine ⟨?_, Nat.le_refl _, Nat.le_refl _, ?_, ?_, fun a c9 h9 => ⟨c9, h9, rfl, rfl, fun _ _ => rfl⟩⟩
    · obtain ⟨t, ht, -⟩ := State.frames_cons hr
      show T.setVm s.vm = { ((T.setVm s.vm).setFrames (.invoking m args :: below)).setFrames (T.setVm s.vm).frames with heap := T.heap, slotsUsed := T.slotsUsed }
      rw [State.setFrames_setFrames, State.setFrames_self ht]
      rfl
    · show T.slotsUsed = T.slotsUsed + ((T.heap.toList.drop T.heap.size).map (·.slots.size)).sum
      rw [List.drop_eq_nil_of_le (Nat.le_of_eq Array.length_toList)]
      rfl
    · show ((T.heap.toList.drop T.heap.size).map (·.slots.size)).sum ≤ 0
      rw [List.drop_eq_nil_of_le (Nat.le_of_eq Array.length_toList)]
      exact Nat.le_refl _
/-- 'throw new E()': new; dup; invokespecial; athrow -/
theorem vx_throw0 {cc : ByteArray} {pc : Nat} (hexec : p.tables.exec = Jvm.exec) (hb : c.code = cc) (hl : l.stackTraces = false) {own cls : String} {names : List String} {ik ic mc ms : Nat} {A : Nat → Prop}
    (hown : s.vm.findClass own = some m.cls) (hcls : Bundle.fit cls = true) (hnames : ∀ n ∈ names, Bundle.fit n = true)
    (hk : (Cond.classLink own ik cls).before args s = true) (hini : (Cond.initialized cls).before args s = true) (hat : ∀ w ∈ vx_at0 own ic cls names, w.before args s = true)
    (hgood : ∀ w ∈ Cond.classLink own ik cls :: Cond.initialized cls :: vx_at0 own ic cls names, vx_ot w = true)
    (hU : vx_Zq Bundle.tN "UNASSIGNED_STACK" Bundle.steD A s s.heap) (hN : vx_Zq Bundle.tN "SUPPRESSED_SENTINEL" Bundle.listD A s s.heap) (hS : va_S A s.heap H locs) (hsize : ls.size = c.maxLocals)
    (d0 : decode cc pc = .ok (.new ik, 3)) (d3 : decode cc (pc + 3) = .ok (.dup, 1)) (d4 : decode cc (pc + 4) = .ok (.invokespecial ic, 3)) (d7 : decode cc (pc + 7) = .ok (.athrow, 1))
    (hout : ∀ x ∈ c.exceptionTable.toList, covers x (pc + 7) = false)
    (hRframes : names.length + 3 < R.frames) (hRlocals : (rest.map fun v => v.category).sum + (13 * (names.length + 1) + 42) ≤ R.locals) (hRcells : cells + 1 ≤ R.cells) (hRslots : slots + 6 ≤ R.slots) (hlocks : meth.locks = false)
    (hx : ∀ t : State, s.vm.Alike t.vm → H.size ≤ t.heap.size → (∀ q : Nat, q < H.size → t.heap[q]? = H[q]?) → XC cls s t)
    (hf : ∀ z ∈ locs, free z.base) (hc : cells + 1 ≤ mc) (hs : slots + 6 ≤ ms) :
    W p l e R s m args below meth c H locs cells slots (vx_MQ below Qc XC args s mc ms free) (F0 m pc ls rest) := by
  intro T hT X
  have htr : e.platform.stackTraces = false := (show e.platform.stackTraces = l.stackTraces by rw [X.admits.platform]).trans hl
  have Y := vx_rebase X (R' := { frames := R.frames, locals := R.locals, cells := 1, slots := 6 }) (Nat.le_refl _) (Nat.le_refl _) hRcells hRslots
  obtain ⟨s', hA⟩ : ∃ z, z = (T.setVm s.vm).setFrames (.invoking m args :: below) := ⟨_, rfl⟩
  rw [← hA] at Y
  have hvm : s'.vm = s.vm := by rw [hA]; rfl
  have hhp : s'.heap = H := by rw [hA]; exact hT
  have hW0 : s.WarmedH s'.vm := by rw [hvm]; exact State.WarmedH.refl s
  have hat' : ∀ w ∈ vx_at0 own ic cls names, w.before args s' = true := fun w hw => vx_ot_at hW0 hvm.symm (hgood w (List.mem_cons_of_mem _ (List.mem_cons_of_mem _ hw))) (hat w hw)
  have hk' : (Cond.classLink own ik cls).before args s' = true := vx_ot_at hW0 hvm.symm (hgood _ List.mem_cons_self) hk
  have hini' : (Cond.initialized cls).before args s' = true := vx_ot_at hW0 hvm.symm (hgood _ (List.mem_cons_of_mem _ List.mem_cons_self)) hini
  have hU' : vx_Zq Bundle.tN "UNASSIGNED_STACK" Bundle.steD A s' s'.heap := by rw [hhp]; exact vx_Zq.moved hW0.alike (hU.kept hS.2.1)
  have hN' : vx_Zq Bundle.tN "SUPPRESSED_SENTINEL" Bundle.listD A s' s'.heap := by rw [hhp]; exact vx_Zq.moved hW0.alike (hN.kept hS.2.1)
  have h : ∀ w ∈ Bundle.ownAtoms0 own ic cls names, w.before args s' = true := vx_own hat' (vx_isRefq hU'.1) (vx_isRefq hN'.1) hU'.2.word hN'.2.word
  have hown' : s'.vm.findClass own = some m.cls := by rw [hvm]; exact hown
  have hins : (Cond.instantiable cls 6).before args s' = true := h _ (by simp [Bundle.ownAtoms0])
  obtain ⟨vm₁, cX, kX, hfX, hkX, -, -, X₁, st1⟩ := Y.newCold hexec (own := own) (C := cls) (index := ik) (n := 6) hown' hk' hins hini'
    (g := F0 m pc ls rest) rfl (by rw [hb]; exact d0) (Nat.le_refl _) (Nat.le_refl _)
  generalize hT1 : (T.setVm vm₁).pushCell { cls := cX, slots := kX.instanceTypes.map defaultValue, vm := .none } = T1 at X₁ st1
  have hcat : (Value.ref T.heap.size).category = 1 := rfl
  have hcellA : T1.heap[T.heap.size]? = some (freshCell cX kX) := by rw [← hT1]; exact State.heap_pushCell_size _ _
  have d3' : decode c.code (pc + 3) = .ok (.dup, 1) := by rw [hb]; exact d3
  obtain ⟨U, hsteps, hrun, hend, hW, hsame, ce, hce, hO⟩ := X₁.ctorThrow0 hexec htr (own := own) (cls := cls) (names := names) (ic := ic) hown' hcls hnames h (fun x hx => nomatch hx) hfX hkX hcellA (by rw [hhp, hT]; exact Nat.le_refl _)
    (g := { method := m, pc := pc + 4, locals := ls, stack := .ref T.heap.size :: .ref T.heap.size :: rest, locked := none }) rfl hsize rfl rfl (rest := rest) rfl
    (by rw [hb]; exact d4) (by rw [hb]; exact d7) hout hRframes (by simp only [List.map_cons, List.sum_cons, hcat]; omega) hlocks
  obtain ⟨f1, f2⟩ := vx_frame hsame
  rw [hhp] at f1 f2
  have hWs : s.WarmedH U.vm := State.WarmedH.trans hW0 hW
  have hcl : s.vm.findClass cls = some ce.cls := by
    have h9 := hO.cls
    rw [hvm] at h9
    exact h9
  have hall : s.sameButNew ({ U with vm := s.vm } : State) locs mc ms := by
    subst hA
    obtain ⟨e1, e2⟩ := hsame
    rw [State.setFrames_setFrames] at e1
    have h2 : (T.setVm s.vm).sameButNew ({ U with vm := s.vm } : State) [] (0 + 1) (0 + 6) := ⟨e1, e2⟩
    have h3 := X.same.trans h2
    rw [List.append_nil] at h3
    exact h3.mono hc hs
  refine ⟨U, ?_, .threw T.heap.size, hrun, hend, Or.inr ⟨T.heap.size, rfl, cls, ce, locs, hx U hWs.alike f1 (fun q hq => f2 q hq (fun z hz => nomatch hz)), hce, hO.vm, hcl, hWs, hall, hf⟩⟩
  refine st1 _ ?_
  show Steps p.tables e below (T1.setTop { method := m, pc := pc + 3, locals := ls, stack := .ref T.heap.size :: rest, locked := none }) _
  jvm_step X₁.here [X₁.here.top, hexec, d3', Value.category]
  exact hsteps
/-- 'throw new E("text")': new; dup; ldc; invokespecial; athrow -/
theorem vx_throwS {cc : ByteArray} {pc : Nat} (hexec : p.tables.exec = Jvm.exec) (hb : c.code = cc) (hl : l.stackTraces = false) {own cls text : String} {names : List String} {ik is ic mc ms sa : Nat} {A : Nat → Prop}
    (hown : s.vm.findClass own = some m.cls) (hcls : Bundle.fit cls = true) (hnames : ∀ n ∈ names, Bundle.fit n = true)
    (hk : (Cond.classLink own ik cls).before args s = true) (hini : (Cond.initialized cls).before args s = true) (hstr : vk_R own is text sa s) (hat : ∀ w ∈ vx_atS own ic cls names, w.before args s = true)
    (hgood : ∀ w ∈ Cond.classLink own ik cls :: Cond.initialized cls :: vx_atS own ic cls names, vx_ot w = true)
    (hU : vx_Zq Bundle.tN "UNASSIGNED_STACK" Bundle.steD A s s.heap) (hN : vx_Zq Bundle.tN "SUPPRESSED_SENTINEL" Bundle.listD A s s.heap) (hS : va_S A s.heap H locs) (hsize : ls.size = c.maxLocals)
    (d0 : decode cc pc = .ok (.new ik, 3)) (d3 : decode cc (pc + 3) = .ok (.dup, 1)) (d4 : decode cc (pc + 4) = .ok (.ldc is, 2)) (d6 : decode cc (pc + 6) = .ok (.invokespecial ic, 3)) (d9 : decode cc (pc + 9) = .ok (.athrow, 1))
    (hout : ∀ x ∈ c.exceptionTable.toList, covers x (pc + 9) = false)
    (hRframes : names.length + 3 < R.frames) (hRlocals : (rest.map fun v => v.category).sum + (13 * (names.length + 1) + 43) ≤ R.locals) (hRcells : cells + 1 ≤ R.cells) (hRslots : slots + 6 ≤ R.slots) (hlocks : meth.locks = false)
    (hx : ∀ t : State, s.vm.Alike t.vm → H.size ≤ t.heap.size → (∀ q : Nat, q < H.size → t.heap[q]? = H[q]?) → XC cls s t)
    (hf : ∀ z ∈ locs, free z.base) (hc : cells + 1 ≤ mc) (hs : slots + 6 ≤ ms) :
    W p l e R s m args below meth c H locs cells slots (vx_MQ below Qc XC args s mc ms free) (F0 m pc ls rest) := by
  intro T hT X
  have htr : e.platform.stackTraces = false := (show e.platform.stackTraces = l.stackTraces by rw [X.admits.platform]).trans hl
  have Y := vx_rebase X (R' := { frames := R.frames, locals := R.locals, cells := 1, slots := 6 }) (Nat.le_refl _) (Nat.le_refl _) hRcells hRslots
  obtain ⟨s', hA⟩ : ∃ z, z = (T.setVm s.vm).setFrames (.invoking m args :: below) := ⟨_, rfl⟩
  rw [← hA] at Y
  have hvm : s'.vm = s.vm := by rw [hA]; rfl
  have hhp : s'.heap = H := by rw [hA]; exact hT
  have hW0 : s.WarmedH s'.vm := by rw [hvm]; exact State.WarmedH.refl s
  have hat' : ∀ w ∈ vx_atS own ic cls names, w.before args s' = true := fun w hw => vx_ot_at hW0 hvm.symm (hgood w (List.mem_cons_of_mem _ (List.mem_cons_of_mem _ hw))) (hat w hw)
  have hk' : (Cond.classLink own ik cls).before args s' = true := vx_ot_at hW0 hvm.symm (hgood _ List.mem_cons_self) hk
  have hini' : (Cond.initialized cls).before args s' = true := vx_ot_at hW0 hvm.symm (hgood _ (List.mem_cons_of_mem _ List.mem_cons_self)) hini
  have hU' : vx_Zq Bundle.tN "UNASSIGNED_STACK" Bundle.steD A s' s'.heap := by rw [hhp]; exact vx_Zq.moved hW0.alike (hU.kept hS.2.1)
  have hN' : vx_Zq Bundle.tN "SUPPRESSED_SENTINEL" Bundle.listD A s' s'.heap := by rw [hhp]; exact vx_Zq.moved hW0.alike (hN.kept hS.2.1)
  have h : ∀ w ∈ Bundle.ownAtoms own ic cls names, w.before args s' = true := vx_own hat' (vx_isRefq hU'.1) (vx_isRefq hN'.1) hU'.2.word hN'.2.word
  have hown' : s'.vm.findClass own = some m.cls := by rw [hvm]; exact hown
  have hins : (Cond.instantiable cls 6).before args s' = true := h _ (by simp [Bundle.ownAtoms])
  obtain ⟨vm₁, cX, kX, hfX, hkX, -, -, X₁, st1⟩ := Y.newCold hexec (own := own) (C := cls) (index := ik) (n := 6) hown' hk' hins hini'
    (g := F0 m pc ls rest) rfl (by rw [hb]; exact d0) (Nat.le_refl _) (Nat.le_refl _)
  generalize hT1 : (T.setVm vm₁).pushCell { cls := cX, slots := kX.instanceTypes.map defaultValue, vm := .none } = T1 at X₁ st1
  have hcat : (Value.ref T.heap.size).category = 1 := rfl
  have hcellA : T1.heap[T.heap.size]? = some (freshCell cX kX) := by rw [← hT1]; exact State.heap_pushCell_size _ _
  have d3' : decode c.code (pc + 3) = .ok (.dup, 1) := by rw [hb]; exact d3
  have d4' : decode c.code (pc + 4) = .ok (.ldc is, 2) := by rw [hb]; exact d4
  have hstr' : vk_R own is text sa s' := vk_R.warm hW0 hstr
  obtain ⟨U, hsteps, hrun, hend, hW, hsame, ce, hce, hO⟩ := X₁.ctorThrowS hexec htr (own := own) (cls := cls) (names := names) (ic := ic) hown' hcls hnames h (fun x hx => nomatch hx) hfX hkX hcellA (by rw [hhp, hT]; exact Nat.le_refl _) (msg := .ref sa) rfl
    (g := { method := m, pc := pc + 6, locals := ls, stack := .ref sa :: .ref T.heap.size :: .ref T.heap.size :: rest, locked := none }) rfl hsize rfl rfl (rest := rest) rfl
    (by rw [hb]; exact d6) (by rw [hb]; exact d9) hout hRframes (by simp only [List.map_cons, List.sum_cons, hcat]; omega) hlocks
  obtain ⟨f1, f2⟩ := vx_frame hsame
  rw [hhp] at f1 f2
  have hWs : s.WarmedH U.vm := State.WarmedH.trans hW0 hW
  have hcl : s.vm.findClass cls = some ce.cls := by
    have h9 := hO.cls
    rw [hvm] at h9
    exact h9
  have hall : s.sameButNew ({ U with vm := s.vm } : State) locs mc ms := by
    subst hA
    obtain ⟨e1, e2⟩ := hsame
    rw [State.setFrames_setFrames] at e1
    have h2 : (T.setVm s.vm).sameButNew ({ U with vm := s.vm } : State) [] (0 + 1) (0 + 6) := ⟨e1, e2⟩
    have h3 := X.same.trans h2
    rw [List.append_nil] at h3
    exact h3.mono hc hs
  refine ⟨U, ?_, .threw T.heap.size, hrun, hend, Or.inr ⟨T.heap.size, rfl, cls, ce, locs, hx U hWs.alike f1 (fun q hq => f2 q hq (fun z hz => nomatch hz)), hce, hO.vm, hcl, hWs, hall, hf⟩⟩
  refine st1 _ ?_
  show Steps p.tables e below (T1.setTop { method := m, pc := pc + 3, locals := ls, stack := .ref T.heap.size :: rest, locked := none }) _
  jvm_step X₁.here [X₁.here.top, hexec, d3', Value.category]
  exact X₁.ldcString hexec (own := own) (text := text) (index := is) (a := sa) hown' hstr'.1 hstr'.2
    (g := { method := m, pc := pc + 4, locals := ls, stack := .ref T.heap.size :: .ref T.heap.size :: rest, locked := none }) rfl d4' _ hsteps
/-- 'throw new E("text")', the text by a wide index -/
theorem vx_throwSW {cc : ByteArray} {pc : Nat} (hexec : p.tables.exec = Jvm.exec) (hb : c.code = cc) (hl : l.stackTraces = false) {own cls text : String} {names : List String} {ik is ic mc ms sa : Nat} {A : Nat → Prop}
    (hown : s.vm.findClass own = some m.cls) (hcls : Bundle.fit cls = true) (hnames : ∀ n ∈ names, Bundle.fit n = true)
    (hk : (Cond.classLink own ik cls).before args s = true) (hini : (Cond.initialized cls).before args s = true) (hstr : vk_R own is text sa s) (hat : ∀ w ∈ vx_atS own ic cls names, w.before args s = true)
    (hgood : ∀ w ∈ Cond.classLink own ik cls :: Cond.initialized cls :: vx_atS own ic cls names, vx_ot w = true)
    (hU : vx_Zq Bundle.tN "UNASSIGNED_STACK" Bundle.steD A s s.heap) (hN : vx_Zq Bundle.tN "SUPPRESSED_SENTINEL" Bundle.listD A s s.heap) (hS : va_S A s.heap H locs) (hsize : ls.size = c.maxLocals)
    (d0 : decode cc pc = .ok (.new ik, 3)) (d3 : decode cc (pc + 3) = .ok (.dup, 1)) (d4 : decode cc (pc + 4) = .ok (.ldc_w is, 3)) (d7 : decode cc (pc + 7) = .ok (.invokespecial ic, 3)) (d10 : decode cc (pc + 10) = .ok (.athrow, 1))
    (hout : ∀ x ∈ c.exceptionTable.toList, covers x (pc + 10) = false)
    (hRframes : names.length + 3 < R.frames) (hRlocals : (rest.map fun v => v.category).sum + (13 * (names.length + 1) + 43) ≤ R.locals) (hRcells : cells + 1 ≤ R.cells) (hRslots : slots + 6 ≤ R.slots) (hlocks : meth.locks = false)
    (hx : ∀ t : State, s.vm.Alike t.vm → H.size ≤ t.heap.size → (∀ q : Nat, q < H.size → t.heap[q]? = H[q]?) → XC cls s t)
    (hf : ∀ z ∈ locs, free z.base) (hc : cells + 1 ≤ mc) (hs : slots + 6 ≤ ms) :
    W p l e R s m args below meth c H locs cells slots (vx_MQ below Qc XC args s mc ms free) (F0 m pc ls rest) := by
  intro T hT X
  have htr : e.platform.stackTraces = false := (show e.platform.stackTraces = l.stackTraces by rw [X.admits.platform]).trans hl
  have Y := vx_rebase X (R' := { frames := R.frames, locals := R.locals, cells := 1, slots := 6 }) (Nat.le_refl _) (Nat.le_refl _) hRcells hRslots
  obtain ⟨s', hA⟩ : ∃ z, z = (T.setVm s.vm).setFrames (.invoking m args :: below) := ⟨_, rfl⟩
  rw [← hA] at Y
  have hvm : s'.vm = s.vm := by rw [hA]; rfl
  have hhp : s'.heap = H := by rw [hA]; exact hT
  have hW0 : s.WarmedH s'.vm := by rw [hvm]; exact State.WarmedH.refl s
  have hat' : ∀ w ∈ vx_atS own ic cls names, w.before args s' = true := fun w hw => vx_ot_at hW0 hvm.symm (hgood w (List.mem_cons_of_mem _ (List.mem_cons_of_mem _ hw))) (hat w hw)
  have hk' : (Cond.classLink own ik cls).before args s' = true := vx_ot_at hW0 hvm.symm (hgood _ List.mem_cons_self) hk
  have hini' : (Cond.initialized cls).before args s' = true := vx_ot_at hW0 hvm.symm (hgood _ (List.mem_cons_of_mem _ List.mem_cons_self)) hini
  have hU' : vx_Zq Bundle.tN "UNASSIGNED_STACK" Bundle.steD A s' s'.heap := by rw [hhp]; exact vx_Zq.moved hW0.alike (hU.kept hS.2.1)
  have hN' : vx_Zq Bundle.tN "SUPPRESSED_SENTINEL" Bundle.listD A s' s'.heap := by rw [hhp]; exact vx_Zq.moved hW0.alike (hN.kept hS.2.1)
  have h : ∀ w ∈ Bundle.ownAtoms own ic cls names, w.before args s' = true := vx_own hat' (vx_isRefq hU'.1) (vx_isRefq hN'.1) hU'.2.word hN'.2.word
  have hown' : s'.vm.findClass own = some m.cls := by rw [hvm]; exact hown
  have hins : (Cond.instantiable cls 6).before args s' = true := h _ (by simp [Bundle.ownAtoms])
  obtain ⟨vm₁, cX, kX, hfX, hkX, -, -, X₁, st1⟩ := Y.newCold hexec (own := own) (C := cls) (index := ik) (n := 6) hown' hk' hins hini'
    (g := F0 m pc ls rest) rfl (by rw [hb]; exact d0) (Nat.le_refl _) (Nat.le_refl _)
  generalize hT1 : (T.setVm vm₁).pushCell { cls := cX, slots := kX.instanceTypes.map defaultValue, vm := .none } = T1 at X₁ st1
  have hcat : (Value.ref T.heap.size).category = 1 := rfl
  have hcellA : T1.heap[T.heap.size]? = some (freshCell cX kX) := by rw [← hT1]; exact State.heap_pushCell_size _ _
  have d3' : decode c.code (pc + 3) = .ok (.dup, 1) := by rw [hb]; exact d3
  have d4' : decode c.code (pc + 4) = .ok (.ldc_w is, 3) := by rw [hb]; exact d4
  have hstr' : vk_R own is text sa s' := vk_R.warm hW0 hstr
  obtain ⟨U, hsteps, hrun, hend, hW, hsame, ce, hce, hO⟩ := X₁.ctorThrowS hexec htr (own := own) (cls := cls) (names := names) (ic := ic) hown' hcls hnames h (fun x hx => nomatch hx) hfX hkX hcellA (by rw [hhp, hT]; exact Nat.le_refl _) (msg := .ref sa) rfl
    (g := { method := m, pc := pc + 7, locals := ls, stack := .ref sa :: .ref T.heap.size :: .ref T.heap.size :: rest, locked := none }) rfl hsize rfl rfl (rest := rest) rfl
    (by rw [hb]; exact d7) (by rw [hb]; exact d10) hout hRframes (by simp only [List.map_cons, List.sum_cons, hcat]; omega) hlocks
  obtain ⟨f1, f2⟩ := vx_frame hsame
  rw [hhp] at f1 f2
  have hWs : s.WarmedH U.vm := State.WarmedH.trans hW0 hW
  have hcl : s.vm.findClass cls = some ce.cls := by
    have h9 := hO.cls
    rw [hvm] at h9
    exact h9
  have hall : s.sameButNew ({ U with vm := s.vm } : State) locs mc ms := by
    subst hA
    obtain ⟨e1, e2⟩ := hsame
    rw [State.setFrames_setFrames] at e1
    have h2 : (T.setVm s.vm).sameButNew ({ U with vm := s.vm } : State) [] (0 + 1) (0 + 6) := ⟨e1, e2⟩
    have h3 := X.same.trans h2
    rw [List.append_nil] at h3
    exact h3.mono hc hs
  refine ⟨U, ?_, .threw T.heap.size, hrun, hend, Or.inr ⟨T.heap.size, rfl, cls, ce, locs, hx U hWs.alike f1 (fun q hq => f2 q hq (fun z hz => nomatch hz)), hce, hO.vm, hcl, hWs, hall, hf⟩⟩
  refine st1 _ ?_
  show Steps p.tables e below (T1.setTop { method := m, pc := pc + 3, locals := ls, stack := .ref T.heap.size :: rest, locked := none }) _
  jvm_step X₁.here [X₁.here.top, hexec, d3', Value.category]
  exact X₁.ldcStringW hexec (own := own) (text := text) (index := is) (a := sa) hown' hstr'.1 hstr'.2
    (g := { method := m, pc := pc + 4, locals := ls, stack := .ref T.heap.size :: .ref T.heap.size :: rest, locked := none }) rfl d4' _ hsteps
end Ends
section Bodies
variable {l : Launch}
theorem vx_ofW {y : MethodName} {ws ws' : List Cond} {rm : Room} {Pc : Array Value → State → Prop} {Qc : Array Value → State → Outcome → State → Prop} {XC : String → State → State → Prop} {mc ms : Nat} {free : Addr → Prop} {cc : ByteArray} {maxL : Nat} {ret : Option FieldType}
    (hy : plainName y.cls = true) (hw : ws = Cond.code y cc maxL ret :: ws')
    (body : ∀ p e s m args below meth c s₁, BodyLoose p l y (headSpec ws rm) cc maxL ret e s m args below meth c s₁ → c.maxLocals = maxL → (∀ x ∈ c.exceptionTable.toList, False) → Pc args s →
      W p l e (headSpec ws rm).room s m args below meth c s.heap [] 0 0 (vx_MQ below Qc XC args s mc ms free) (entryFrame m args maxL)) : vx_Met l y ws rm Pc Qc XC mc ms free := by
  refine MetFree.of_bodyS (code := cc) (maxLocals := maxL) (ret := ret) hy ?_ ?_
  · intro args s m h hn
    obtain ⟨meth, c, h1, h2, h3, h4, h5, h6, -, -⟩ := Cond.code_spec hn (atoms_spec (ws := ws) h _ (by rw [hw]; exact List.mem_cons_self))
    exact ⟨meth, c, h1, h2, h3, h4, h5, h6⟩
  · intro p e s m args below meth c s₁ B hml hP _
    have hh0 : s₁.heap = s.heap := by rw [B.state]; rfl
    have ht : ∀ x ∈ c.exceptionTable.toList, False := by
      obtain ⟨meth9, c9, h1, h2, -, -, -, -, h7, -⟩ := Cond.code_spec B.named (atoms_spec (ws := ws) B.pre _ (by rw [hw]; exact List.mem_cons_self))
      cases Option.some.inj (h1.symm.trans B.method)
      cases Option.some.inj (h2.symm.trans (Stand.of_body B).code)
      intro x hx
      rw [Array.isEmpty_iff.mp h7] at hx
      cases hx
    obtain ⟨t, a1, o, b1, b2, b3⟩ := body p e s m args below meth c s₁ B hml ht hP s₁ hh0 (Stand.of_body B)
    exact ⟨t, o, a1, b1, b2, b3⟩
/-- the table of a body with handlers -/
theorem vx_table {p : Program} {x y : MethodName} {S : Spec} {cc bytes : ByteArray} {maxL maxL' : Nat} {ret ret' : Option FieldType} {e : Env} {s s₁ : State} {m : MethodId} {args : Array Value} {below : List Frame} {meth : Method} {c : Code} {hh : List (Nat × Nat × Nat × Nat)}
    (B : BodyLoose p l y S cc maxL ret e s m args below meth c s₁) (h : (Cond.codeWith y bytes maxL' ret' hh).before args s = true) : c.exceptionTable.toList = tableOf hh := by
  obtain ⟨m9, meth9, c9, hn9, h1, h2, -, -, h6, -⟩ := Cond.codeWith_spec h
  cases Option.some.inj (hn9.symm.trans B.named)
  cases Option.some.inj (h1.symm.trans B.method)
  cases Option.some.inj (h2.symm.trans (Stand.of_body B).code)
  rw [← h6, table_eq]
end Bodies
end VXA
/-! ===== END ===== -/
/-! ===== BEGIN a static call of a method with an exception table ===== -/
section VXS
variable {p : Program} {l : Launch} {e : Env} {R : Room} {s : State} {m : MethodId} {args : Array Value} {below : List Frame} {meth : Method} {c : Code} {T : State} {H : Heap} {locs : List Loc} {cells slots : Nat}
abbrev vx_CSW (R : Room) (s : State) (args : Array Value) (own : String) (index : Nat) (y : MethodName) (bytes : ByteArray) (maxL : Nat) (ret : Option FieldType) (hh : List (Nat × Nat × Nat × Nat)) (ws : List Cond) (rm : Room) (mc ms n : Nat) : Prop :=
  (rm.cells = mc ∧ rm.slots = ms ∧ rm.frames + 1 ≤ R.frames ∧ 8 + (maxL + 11) + rm.locals ≤ R.locals ∧ (∀ w ∈ ws, ∀ (a' : Array Value) (U : State), s.WarmedH U.vm → w.before a' U = true) ∧ Cond.codeWith y bytes maxL ret hh ∈ ws) ∧
  (Cond.codeWith y bytes maxL ret hh).before args s = true ∧ (Cond.initialized y.cls).before args s = true ∧ (y.cls ≠ "java/lang/invoke/MethodHandle" ∧ y.cls ≠ "java/lang/invoke/VarHandle") ∧
  (∀ sig, parseMethodDescriptor y.desc = some sig → n = sig.parameters.length) ∧ (Cond.methodLink own index y).before args s = true ∧ (Cond.static y).before args s = true
theorem vx_cwSW {own : String} {index maxL mc ms : Nat} {y : MethodName} {bytes : ByteArray} {ret : Option FieldType} {hh : List (Nat × Nat × Nat × Nat)} {Ts ws ws' : List Cond} {rm : Room} (n : Nat) (ht : ∀ w ∈ Ts, w.before args s = true) (hT : GoodIn Ts (va_wsS own index y ws)) (hw : ws = Cond.codeWith y bytes maxL ret hh :: ws') (hrc : rm.cells = mc) (hrs : rm.slots = ms)
    (hd : y.cls ≠ "java/lang/invoke/MethodHandle" ∧ y.cls ≠ "java/lang/invoke/VarHandle" ∧ (parseMethodDescriptor y.desc).map (fun d => d.parameters.length) = some n) (hR : rm.frames + 1 ≤ R.frames ∧ 8 + (maxL + 11) + rm.locals ≤ R.locals) :
    vx_CSW R s args own index y bytes maxL ret hh ws rm mc ms n := by
  have ok : ∀ w ∈ va_wsS own index y ws, w.before args s = true := fun w h => ht w (hT w h).1
  have hG : GoodIn Ts ws := fun w h => hT w (by unfold va_wsS; exact List.mem_append_right _ h)
  have hc : Cond.codeWith y bytes maxL ret hh ∈ ws := by rw [hw]; exact List.mem_cons_self
  refine ⟨⟨hrc, hrs, hR.1, hR.2, pay_in ht hG, hc⟩, ht _ (hG _ hc).1, ok _ (by simp [va_wsS]), ⟨hd.1, hd.2.1⟩, fun sig h => ?_, ok _ (by simp [va_wsS]), ok _ (by simp [va_wsS])⟩
  have h2 := hd.2.2
  rw [h] at h2
  exact (Option.some.inj h2).symm
theorem vx_callSW (X : Stand p l e R s m args below meth c T locs cells slots) (hexec : p.tables.exec = Jvm.exec) {own : String} {index : Nat} {y : MethodName} {bytes : ByteArray} {maxL : Nat} {ret : Option FieldType} {hh : List (Nat × Nat × Nat × Nat)}
    (hown : s.vm.findClass own = some m.cls) (hlink : (Cond.methodLink own index y).before args s = true) (hstat : (Cond.static y).before args s = true) (hinit : (Cond.initialized y.cls).before args s = true)
    (hcode : (Cond.codeWith y bytes maxL ret hh).before args s = true) (hy : y.cls ≠ "java/lang/invoke/MethodHandle" ∧ y.cls ≠ "java/lang/invoke/VarHandle")
    {W9 : Nat} {Pre : Pt → Array Value → Prop} {Post : Pt → Array Value → Option Value → Pt → Prop} (hK : Back l R p e below s args y 3 W9 Pre Post)
    {g : JFrame} (hg : g.method = m) (hsize : g.locals.size = c.maxLocals) {argsL rest : List Value} (hlen : ∀ sig, parseMethodDescriptor y.desc = some sig → argsL.length = sig.parameters.length)
    (hstack : g.stack = argsL.reverse ++ rest) (hW : 2 * g.monitorRoom + (rest.map fun v => v.category).sum ≤ W9) (hdg : decode c.code g.pc = .ok (.invokestatic index, 3))
    (hpre : ∀ vm₁, s.WarmedH vm₁ → Pre ⟨T.setVm vm₁, locs, cells, slots⟩ argsL.toArray) :
    ∃ (v : Option Value) (vm₁ : Vm) (B : Pt), s.WarmedH vm₁ ∧ Stand p l e R s m args below meth c B.U B.locs B.cells B.slots ∧ Post ⟨T.setVm vm₁, locs, cells, slots⟩ argsL.toArray v B ∧
      ∀ target, Steps p.tables e below (B.U.setTop { g with pc := g.pc + 3, stack := v.toList ++ rest }) target → Steps p.tables e below (T.setTop g) target := by
  obtain ⟨mk, methM, cM, hnamed, hmethM, -, -, -, -, -, -, hsigM⟩ := Cond.codeWith_spec hcode
  have hstatic : methM.isStatic = true := Cond.static_spec hnamed hmethM hstat
  obtain ⟨kP, hkP, -⟩ := className_of_methodNamed hnamed
  have hinitP : kP.init = .initialized := Cond.initialized_spec (findClass_of_methodNamed hnamed) hkP hinit
  obtain ⟨vm₁, X₁, hstep₁⟩ := X.invokestatic hexec hown hlink hnamed hmethM hstatic hkP hinitP hy (g := g) hg (argsL := argsL) (rest := rest) (hlen _ hsigM) hstack hdg
  obtain ⟨v, B, X', hpost, hsteps⟩ := hK m meth c ⟨T.setVm vm₁, locs, cells, slots⟩ { g with stack := rest } (.invokestatic index) mk argsL.toArray X₁ hg hsize hdg hW (X₁.named hnamed) (hpre vm₁ X₁.warmed)
  exact ⟨v, vm₁, B, X₁.warmed, X', hpost, fun target h => hstep₁ _ fun acts => by rw [doInvoke_state]; exact hsteps.trans h⟩
theorem vx_runSW {y : MethodName} {bytes cc : ByteArray} {maxL nL mc ms n index : Nat} {ret : Option FieldType} {hh : List (Nat × Nat × Nat × Nat)} {ws : List Cond} {rm : Room} {Pc : Array Value → State → Prop} {Qc : Array Value → State → Outcome → State → Prop} {free : Addr → Prop} {Ts : List Cond} {own : String} {As rest : List Value} {g : JFrame}
    (S : CallFix p m c cc nL s args Ts own) (hM : Met l y ws rm Pc Qc mc ms free) (cw : vx_CSW R s args own index y bytes maxL ret hh ws rm mc ms n) (hp : PreS s H Pc As)
    (hg : g.method = m) (hn : As.length = n) (hsize : g.locals.size = nL) (hstack : g.stack = As.reverse ++ rest) (hW : 2 * g.monitorRoom + (rest.map fun v => v.category).sum ≤ 8) (hdg : decode cc g.pc = .ok (.invokestatic index, 3)) (hf : cells + mc ≤ R.cells ∧ slots + ms ≤ R.slots) :
    va_Run p l e R s m args below meth c H locs cells slots mc ms g rest (Qc As.toArray) (free) := by
  obtain ⟨⟨hrc, hrs, hfr, hlo, hws, hcw⟩, hcode, hini, hy, hlen, hl, hstt⟩ := cw
  have hK : Back l R p e below s args y 3 8 (PreOf R mc ms Pc) (PostOf Qc mc ms free) := va_backW (hh := hh) (bytes := bytes) (maxL := maxL) (ret := ret) hM hp.1 hrc hrs hfr hlo hws hcw (fun a' U hW => word_at hW (Or.inl (by first | rfl | simp [Cond.onTables, Cond.keeps, Cond.steady])) hini)
  obtain ⟨hx, hb, hml, ho, -⟩ := S
  intro T hT X
  obtain ⟨v, vm₁, ⟨U', l2, c2, s2⟩, hW₁, X', ⟨g', mk, t, L, e1, e2, hq, h1, hL, h2, h3⟩, st⟩ := vx_callSW X hx (hh := hh) (bytes := bytes) (maxL := maxL) (ret := ret) ho hl hstt hini hcode hy hK hg (hsize.trans hml.symm) (argsL := As) (rest := rest) (fun sig h => hn.trans (hlen sig h)) hstack hW (by rw [hb]; exact hdg)
    (fun vm₁ hW₁ => ⟨hf.1, hf.2, hp.2 (T.setVm vm₁) hT hW₁⟩)
  dsimp only [Pt.U, Pt.locs, Pt.cells, Pt.slots] at X' e1 e2 h1 h2 h3 st
  subst h1; subst h2; subst h3
  exact ⟨v, (T.setVm vm₁).calling g' mk As.toArray, t, U', L, hT, X', hL, e1, e2, hq, st⟩
/-- not caught here, past rows that name other classes: it goes on to the caller -/
theorem vx_outP {p : Program} {l : Launch} {e : Env} {R : Room} {s : State} {m : MethodId} {args : Array Value} {below : List Frame} {meth : Method} {c : Code} {H : Heap} {locs : List Loc} {cells slots : Nat} {free : Addr → Prop} {ls : Array Slot} {rest : List Value} {Qc : Array Value → State → Outcome → State → Prop} {XC : String → State → State → Prop}
    {pc : Nat} {own E : String} {ce : Cell} {q : Addr} {mc ms : Nat} (hown : s.vm.findClass own = some m.cls) (hlocks : meth.locks = false)
    (hpass : ∀ z ∈ c.exceptionTable.toList, covers z pc = false ∨ (z.catchType ≠ 0 ∧ ∃ nm : String, (Cond.classLink own z.catchType nm).before args s = true ∧ va_Nc E nm s)) (hcell : H[q]? = some ce) (hv : ce.vm = .none) (hcl : s.vm.findClass E = some ce.cls)
    (hx : ∀ t : State, t.heap = H → s.vm.Alike t.vm → XC E s t) (hf : ∀ z ∈ locs, free z.base) (hc : cells ≤ mc) (hs : slots ≤ ms) :
    vx_W p l e R s m args below meth c H locs cells slots (vx_MQ below Qc XC args s mc ms free) (F0 m pc ls rest) q := by
  intro T hT X
  have hpl : e.platform.magicAccessors = ({} : Platform).magicAccessors := by rw [X.admits.platform]
  obtain ⟨vm', hW', X', st⟩ := X.outThrough hlocks q (g := F0 m pc ls rest) rfl rfl rfl (cell := ce) (by rw [hT]; exact hcell) (by rw [hv]; rfl)
    (by obtain ⟨k9, h9, -⟩ := Vm.findClass_spec hcl; exact ⟨k9, h9⟩) (fun z hz => by
      rcases hpass z hz with h | ⟨hz0, nm, hl1, hn1⟩
      · exact Or.inl h
      · obtain ⟨c6, hc6, hcl6⟩ := Cond.classLink_spec hown hl1 e.platform hpl
        obtain ⟨a8, b8, h1, h2, h3⟩ := hn1
        cases Option.some.inj (h1.symm.trans hcl)
        cases Option.some.inj (h2.symm.trans hc6)
        exact Or.inr ⟨hz0, _, hcl6, h3⟩)
  obtain ⟨g₀, hfr⟩ := X'.frames_eq
  have hcell9 : ((T.setVm vm').setFrames (.throwing q :: below)).heap[q]? = some ce := by
    show T.heap[q]? = some ce
    rw [hT]; exact hcell
  have hend : Ended ((T.setVm vm').setFrames (.throwing q :: below)) below (.threw q) := State.frames_setFrames _ (State.cur_lt_of_frames hfr)
  refine ⟨(T.setVm vm').setFrames (.throwing q :: below), ?_, .threw q, X'.here.running, hend, Or.inr ⟨q, rfl, E, ce, locs, hx _ hT (X'.ends _).1.alike, hcell9, hv, hcl, (X'.ends _).1, (X'.ends _).2.mono hc hs, hf⟩⟩
  rw [X.pushThrowing_eq]
  exact st
/-- a thing of a world lies in the heap -/
theorem vx_lt {D : va_G} {cl : List vw_C} {ws : va_W} {H1 : Heap} (h : va_P D cl ws H1) {k : Nat} {q : Nat × va_E} (hk : ws[k]? = some q) : q.1 < H1.size := (h k q hk).lt
end VXS
/-! ===== END ===== -/
/-! ===== BEGIN methods with a table of their own: called by a name, returning or throwing ===== -/
section VXH
/-! vx_backW, vx_callVX, vx_callSX, vx_callVW, vx_runVW, vx_runVX, vx_runSX, vx_ofWH follow the same proofs as their sisters above (Free/Laws.lean, Shelf42/LK1.lean); vx_outP calls Shelf42/NT130.lean (outThrough). -/
section
variable {l : Launch} {R : Room} {p : Program} {e : Env} {below : List Frame} {s : State} {sargs : Array Value} {y : MethodName} {len W9 : Nat}
theorem vx_backW {ws : List Cond} {rm : Room} {Pc : Array Value → State → Prop} {Qc : Array Value → State → Outcome → State → Prop} {XC : String → State → State → Prop} {mc ms : Nat} {free : Addr → Prop} {bytes : ByteArray} {maxL : Nat} {ret : Option FieldType} {hh : List (Nat × Nat × Nat × Nat)}
    (hM : vx_Met l y ws rm Pc Qc XC mc ms free) (hblind : FrameBlind Pc) (hrc : rm.cells = mc) (hrs : rm.slots = ms)
    (hframes : rm.frames + 1 ≤ R.frames) (hlocals : W9 + (maxL + 11) + rm.locals ≤ R.locals)
    (hws : ∀ w ∈ ws, ∀ a' U, s.WarmedH U.vm → w.before a' U = true) (hcode : Cond.codeWith y bytes maxL ret hh ∈ ws) (hinit : ∀ a' U, s.WarmedH U.vm → (Cond.initialized y.cls).before a' U = true) :
    vx_Back l R p e below s sargs y len W9 (PreOf R mc ms Pc) (PostOf Qc mc ms free) (vx_Post XC mc ms free) := by
  intro m meth c A g ig mk a X hg hsize hdg hW hn hp
  have h1 : (headSpec ws rm).pre.before a A.U = true := atoms_intro fun w hw => hws w hw _ _ X.warmed
  have h2 : (Cond.codeWith y bytes maxL ret hh).before a A.U = true := hws _ hcode _ _ X.warmed
  have h3 : (Cond.initialized y.cls).before a A.U = true := hinit _ _ X.warmed
  have h4 : A.cells + (headSpec ws rm).room.cells ≤ R.cells := by rw [show (headSpec ws rm).room.cells = mc from hrc]; exact hp.1
  have h5 : A.slots + (headSpec ws rm).room.slots ≤ R.slots := by rw [show (headSpec ws rm).room.slots = ms from hrs]; exact hp.2.1
  have hPc : Pc a (A.U.calling g mk a) := hblind _ _ _ _ hp.2.2
  obtain ⟨U, Ls, c0, s0⟩ := A
  dsimp only [Pt.U, Pt.locs, Pt.cells, Pt.slots] at h1 h2 h3 h4 h5 X hn hPc ⊢
  obtain ⟨m9, methY, cY, hn9, hmY, hcY, -, hlY, -⟩ := Cond.codeWith_spec h2
  cases Option.some.inj (hn9.symm.trans hn)
  obtain ⟨kY, hkY, -⟩ := className_of_methodNamed hn
  have hinitY : kY.init = .initialized := Cond.initialized_spec (findClass_of_methodNamed hn) hkY h3
  have h : At U g.method c below := by rw [hg]; exact X.here
  have hlocals9 : W9 + (maxL + 11) + (headSpec ws rm).room.locals ≤ R.locals := hlocals
  have happ : (headSpec ws rm).appliesLoose y e.platform (U.calling g mk a) = true :=
    Spec.appliesLoose_calling (g := g) h hdg hn hkY hinitY
      (X.room_calling (g := g) (R' := (headSpec ws rm).room) hsize hmY hcY hframes (by rw [hlY]; omega) h4 h5) h1
  obtain ⟨mid, hmid⟩ := h.above
  have hfr : (U.setTop g).frames = (.java g :: mid) ++ below := by rw [State.frames_setTop' g h.top, hmid]; rfl
  obtain ⟨o, s₂, hsteps, -, hend, hq⟩ := Steps.callFree hM p X.admits X.cas X.clock (acts := []) hfr happ hPc trivial
  have hq' : vx_Q Qc XC mc ms free a (U.calling g mk a) o s₂ := hq
  rw [State.frames_setTop' g h.top] at hend
  obtain ⟨g₀, hg0⟩ := Option.isSome_iff_exists.mp h.top
  obtain ⟨r, hr⟩ := State.topJava?_eq_some.mp hg0
  have hr' : (({ U with heap := s₂.heap, slotsUsed := s₂.slotsUsed } : State).setVm s₂.vm).frames = .java g₀ :: r := hr
  rcases hq' with ⟨hqc, L, hfe, hL⟩ | ⟨q, rfl, E, ce, L, hx, hce, hcv, hcl, hW₂, hsm, hL⟩
  · obtain ⟨⟨v, rfl⟩, hW₂, e2, q2, q3, q4, q5, q6⟩ := id hfe
    have e3 : s₂ = ({ (U.calling g mk a).setFrames s₂.frames with heap := s₂.heap, slotsUsed := s₂.slotsUsed } : State).setVm s₂.vm := by
      have : s₂ = ({ s₂ with vm := (U.calling g mk a).vm } : State).setVm s₂.vm := rfl
      rw [e2] at this
      exact this
    obtain ⟨c₂, i₂, len₂, hc₂, hd₂, hf₂⟩ := hend
    have hW' : U.WarmedH s₂.vm := hW₂
    have hcc : c₂ = c := by
      have h1 : s₂.code? g.method = U.code? g.method := by
        rw [State.code?_eq, State.code?_eq, hW'.alike.method?]
      exact Option.some.inj (hc₂.symm.trans (h1.trans h.code))
    subst hcc
    have hlen : len₂ = len := by rw [hdg] at hd₂; cases hd₂; rfl
    subst hlen
    have hs₂ : s₂ = (({ U with heap := s₂.heap, slotsUsed := s₂.slotsUsed } : State).setVm s₂.vm).setTop { g with pc := g.pc + len₂, stack := v.toList ++ g.stack } := by
      refine e3.trans ?_
      rw [hf₂, State.calling_eq h.top, State.setFrames_setFrames, State.setTop_of_frames _ hr', hr]
      rfl
    have hsame : U.sameButNew ({ U with heap := s₂.heap, slotsUsed := s₂.slotsUsed } : State) L mc ms := by
      refine ⟨?_, q2, q3, q4, q5, q6⟩
      obtain ⟨t, ht, -⟩ := State.frames_cons hr
      show ({ U with heap := s₂.heap, slotsUsed := s₂.slotsUsed } : State) = { U.setFrames U.frames with heap := s₂.heap, slotsUsed := s₂.slotsUsed }
      rw [State.setFrames_self ht]
    subst hg
    refine Or.inl ⟨v, ⟨(({ U with heap := s₂.heap, slotsUsed := s₂.slotsUsed } : State).setVm s₂.vm), Ls ++ L, c0 + mc, s0 + ms⟩,
      ⟨X.admits, X.cas, X.clock, X.frames, X.room, X.hears, X.method, X.code, (X.here.setHeapUsed s₂.heap s₂.slotsUsed).setVm hW'.alike, X.tail, State.WarmedH.trans X.warmed hW', X.limits, X.bytes, X.same.trans (hsame.setVm s.vm)⟩,
      ⟨g, mk, s₂, L, rfl, rfl, hqc, rfl, hL, rfl, rfl⟩, ?_⟩
    show Steps p.tables e below _ ((({ U with heap := s₂.heap, slotsUsed := s₂.slotsUsed } : State).setVm s₂.vm).setTop { g with pc := g.pc + len₂, stack := v.toList ++ g.stack })
    rw [← hs₂]
    exact hsteps
  · obtain ⟨e2, q2, q3, q4, q5, q6⟩ := id hsm
    have e3 : s₂ = ({ (U.calling g mk a).setFrames s₂.frames with heap := s₂.heap, slotsUsed := s₂.slotsUsed } : State).setVm s₂.vm := by
      have : s₂ = ({ s₂ with vm := (U.calling g mk a).vm } : State).setVm s₂.vm := rfl
      rw [e2] at this
      exact this
    have hf₂ : s₂.frames = .throwing q :: .java g :: U.frames.tail := hend
    have hW' : U.WarmedH s₂.vm := hW₂
    have hs₂ : s₂ = ((({ U with heap := s₂.heap, slotsUsed := s₂.slotsUsed } : State).setVm s₂.vm).setTop g).pushFrame (.throwing q) := by
      refine e3.trans ?_
      rw [hf₂, State.calling_eq h.top, State.setFrames_setFrames, State.pushFrame, State.frames_setTop _ hr', State.setTop_of_frames _ hr', State.setFrames_setFrames, hr]
      rfl
    have hsame : U.sameButNew ({ U with heap := s₂.heap, slotsUsed := s₂.slotsUsed } : State) L mc ms := by
      refine ⟨?_, q2, q3, q4, q5, q6⟩
      obtain ⟨t, ht, -⟩ := State.frames_cons hr
      show ({ U with heap := s₂.heap, slotsUsed := s₂.slotsUsed } : State) = { U.setFrames U.frames with heap := s₂.heap, slotsUsed := s₂.slotsUsed }
      rw [State.setFrames_self ht]
    subst hg
    refine Or.inr ⟨q, ⟨(({ U with heap := s₂.heap, slotsUsed := s₂.slotsUsed } : State).setVm s₂.vm), Ls ++ L, c0 + mc, s0 + ms⟩,
      ⟨X.admits, X.cas, X.clock, X.frames, X.room, X.hears, X.method, X.code, (X.here.setHeapUsed s₂.heap s₂.slotsUsed).setVm hW'.alike, X.tail, State.WarmedH.trans X.warmed hW', X.limits, X.bytes, X.same.trans (hsame.setVm s.vm)⟩,
      ⟨g, mk, s₂, L, E, ce, rfl, rfl, hx, hce, hcv, hcl, rfl, hL, rfl, rfl⟩, ?_⟩
    show Steps p.tables e below _ (((({ U with heap := s₂.heap, slotsUsed := s₂.slotsUsed } : State).setVm s₂.vm).setTop g).pushFrame (.throwing q))
    rw [← hs₂]
    exact hsteps
end
variable {p : Program} {l : Launch} {e : Env} {R : Room} {s : State} {m : MethodId} {args : Array Value} {below : List Frame} {meth : Method} {c : Code} {T : State} {H : Heap} {locs : List Loc} {cells slots : Nat}
theorem vx_callVX (X : Stand p l e R s m args below meth c T locs cells slots) (hexec : p.tables.exec = Jvm.exec) {own C : String} {index : Nat} {y : MethodName} {bytes : ByteArray} {maxL : Nat} {ret : Option FieldType} {hh : List (Nat × Nat × Nat × Nat)}
    (hown : s.vm.findClass own = some m.cls) (hlink : (Cond.methodLink own index y).before args s = true) (hinst : (Cond.instanceMethod y).before args s = true) (hsel : (Cond.selects C y y).before args s = true)
    (hcode : (Cond.codeWith y bytes maxL ret hh).before args s = true) (hy : y.cls ≠ "java/lang/invoke/MethodHandle" ∧ y.cls ≠ "java/lang/invoke/VarHandle")
    {W9 : Nat} {Pre : Pt → Array Value → Prop} {Post : Pt → Array Value → Option Value → Pt → Prop} {PostX : Pt → Array Value → Addr → Pt → Prop} (hK : vx_Back l R p e below s args y 3 W9 Pre Post PostX)
    {b : Addr} {cellB : Cell} (hcell : T.heap[b]? = some cellB) (hobj : cellB.vm.isStatics = false) (hcls : s.vm.findClass C = some cellB.cls)
    {g : JFrame} (hg : g.method = m) (hsize : g.locals.size = c.maxLocals) {argsL rest : List Value} (hlen : ∀ sig, parseMethodDescriptor y.desc = some sig → argsL.length = sig.parameters.length)
    (hstack : g.stack = argsL.reverse ++ .ref b :: rest) (hW : 2 * g.monitorRoom + (rest.map fun v => v.category).sum ≤ W9) (hdg : decode c.code g.pc = .ok (.invokevirtual index, 3))
    (hpre : ∀ vm₁, s.WarmedH vm₁ → Pre ⟨T.setVm vm₁, locs, cells, slots⟩ (Value.ref b :: argsL).toArray) :
    (∃ (v : Option Value) (vm₁ : Vm) (B : Pt), s.WarmedH vm₁ ∧ Stand p l e R s m args below meth c B.U B.locs B.cells B.slots ∧ Post ⟨T.setVm vm₁, locs, cells, slots⟩ (Value.ref b :: argsL).toArray v B ∧
      ∀ target, Steps p.tables e below (B.U.setTop { g with pc := g.pc + 3, stack := v.toList ++ rest }) target → Steps p.tables e below (T.setTop g) target) ∨
    (∃ (q : Addr) (vm₁ : Vm) (B : Pt), s.WarmedH vm₁ ∧ Stand p l e R s m args below meth c B.U B.locs B.cells B.slots ∧ PostX ⟨T.setVm vm₁, locs, cells, slots⟩ (Value.ref b :: argsL).toArray q B ∧
      Steps p.tables e below (T.setTop g) ((B.U.setTop { g with stack := rest }).pushFrame (.throwing q))) := by
  obtain ⟨mk, methM, hnamed, hmethM, hstM, habM⟩ := Cond.instanceMethod_spec hinst
  obtain ⟨m8, methM', cM, hn8, hmethM', -, -, -, -, -, -, hsigM⟩ := Cond.codeWith_spec hcode
  cases Option.some.inj (hn8.symm.trans hnamed)
  cases hmethM.symm.trans hmethM'
  obtain ⟨c2, r2, m2, q1, q2, q3, q4, kP, hkP, hkPi⟩ := Cond.selects_spec hsel
  cases hcls.symm.trans q1
  cases (State.methodFound?_of_named hnamed hy).symm.trans q2
  cases hnamed.symm.trans q3
  have hselP : selectMethod e.platform s.vm cellB.cls mk = .method mk := by rw [Launch.admits_selectMethod X.admits]; exact q4
  obtain ⟨vm₁, X₁, hstep₁⟩ := X.invokevirtual hexec hown hlink hnamed hmethM hstM hkP hkPi hy (a := b) (cell := cellB) hcell
    (fun z h => by rw [h] at hobj; cases hobj) hselP hmethM habM hkP hkPi (g := g) hg (argsL := argsL) (rest := rest) (hlen _ hsigM) hstack hdg
  rcases hK m meth c ⟨T.setVm vm₁, locs, cells, slots⟩ { g with stack := rest } (.invokevirtual index) mk (Value.ref b :: argsL).toArray X₁ hg hsize hdg hW (X₁.named hnamed) (hpre vm₁ X₁.warmed) with ⟨v, B, X', hpost, hsteps⟩ | ⟨q, B, X', hpost, hsteps⟩
  · exact Or.inl ⟨v, vm₁, B, X₁.warmed, X', hpost, fun target h => hstep₁ _ fun acts => by rw [doInvoke_state]; exact hsteps.trans h⟩
  · exact Or.inr ⟨q, vm₁, B, X₁.warmed, X', hpost, hstep₁ _ fun acts => by rw [doInvoke_state]; exact hsteps⟩
theorem vx_callSX (X : Stand p l e R s m args below meth c T locs cells slots) (hexec : p.tables.exec = Jvm.exec) {own : String} {index : Nat} {y : MethodName} {bytes : ByteArray} {maxL : Nat} {ret : Option FieldType} {hh : List (Nat × Nat × Nat × Nat)}
    (hown : s.vm.findClass own = some m.cls) (hlink : (Cond.methodLink own index y).before args s = true) (hstat : (Cond.static y).before args s = true) (hinit : (Cond.initialized y.cls).before args s = true)
    (hcode : (Cond.codeWith y bytes maxL ret hh).before args s = true) (hy : y.cls ≠ "java/lang/invoke/MethodHandle" ∧ y.cls ≠ "java/lang/invoke/VarHandle")
    {W9 : Nat} {Pre : Pt → Array Value → Prop} {Post : Pt → Array Value → Option Value → Pt → Prop} {PostX : Pt → Array Value → Addr → Pt → Prop} (hK : vx_Back l R p e below s args y 3 W9 Pre Post PostX)
    {g : JFrame} (hg : g.method = m) (hsize : g.locals.size = c.maxLocals) {argsL rest : List Value} (hlen : ∀ sig, parseMethodDescriptor y.desc = some sig → argsL.length = sig.parameters.length)
    (hstack : g.stack = argsL.reverse ++ rest) (hW : 2 * g.monitorRoom + (rest.map fun v => v.category).sum ≤ W9) (hdg : decode c.code g.pc = .ok (.invokestatic index, 3))
    (hpre : ∀ vm₁, s.WarmedH vm₁ → Pre ⟨T.setVm vm₁, locs, cells, slots⟩ argsL.toArray) :
    (∃ (v : Option Value) (vm₁ : Vm) (B : Pt), s.WarmedH vm₁ ∧ Stand p l e R s m args below meth c B.U B.locs B.cells B.slots ∧ Post ⟨T.setVm vm₁, locs, cells, slots⟩ argsL.toArray v B ∧
      ∀ target, Steps p.tables e below (B.U.setTop { g with pc := g.pc + 3, stack := v.toList ++ rest }) target → Steps p.tables e below (T.setTop g) target) ∨
    (∃ (q : Addr) (vm₁ : Vm) (B : Pt), s.WarmedH vm₁ ∧ Stand p l e R s m args below meth c B.U B.locs B.cells B.slots ∧ PostX ⟨T.setVm vm₁, locs, cells, slots⟩ argsL.toArray q B ∧
      Steps p.tables e below (T.setTop g) ((B.U.setTop { g with stack := rest }).pushFrame (.throwing q))) := by
  obtain ⟨mk, methM, cM, hnamed, hmethM, -, -, -, -, -, -, hsigM⟩ := Cond.codeWith_spec hcode
  have hstatic : methM.isStatic = true := Cond.static_spec hnamed hmethM hstat
  obtain ⟨kP, hkP, -⟩ := className_of_methodNamed hnamed
  have hinitP : kP.init = .initialized := Cond.initialized_spec (findClass_of_methodNamed hnamed) hkP hinit
  obtain ⟨vm₁, X₁, hstep₁⟩ := X.invokestatic hexec hown hlink hnamed hmethM hstatic hkP hinitP hy (g := g) hg (argsL := argsL) (rest := rest) (hlen _ hsigM) hstack hdg
  rcases hK m meth c ⟨T.setVm vm₁, locs, cells, slots⟩ { g with stack := rest } (.invokestatic index) mk argsL.toArray X₁ hg hsize hdg hW (X₁.named hnamed) (hpre vm₁ X₁.warmed) with ⟨v, B, X', hpost, hsteps⟩ | ⟨q, B, X', hpost, hsteps⟩
  · exact Or.inl ⟨v, vm₁, B, X₁.warmed, X', hpost, fun target h => hstep₁ _ fun acts => by rw [doInvoke_state]; exact hsteps.trans h⟩
  · exact Or.inr ⟨q, vm₁, B, X₁.warmed, X', hpost, hstep₁ _ fun acts => by rw [doInvoke_state]; exact hsteps⟩
theorem vx_callVW (X : Stand p l e R s m args below meth c T locs cells slots) (hexec : p.tables.exec = Jvm.exec) {own C : String} {index : Nat} {y : MethodName} {bytes : ByteArray} {maxL : Nat} {ret : Option FieldType} {hh : List (Nat × Nat × Nat × Nat)}
    (hown : s.vm.findClass own = some m.cls) (hlink : (Cond.methodLink own index y).before args s = true) (hinst : (Cond.instanceMethod y).before args s = true) (hsel : (Cond.selects C y y).before args s = true)
    (hcode : (Cond.codeWith y bytes maxL ret hh).before args s = true) (hy : y.cls ≠ "java/lang/invoke/MethodHandle" ∧ y.cls ≠ "java/lang/invoke/VarHandle")
    {W9 : Nat} {Pre : Pt → Array Value → Prop} {Post : Pt → Array Value → Option Value → Pt → Prop} (hK : Back l R p e below s args y 3 W9 Pre Post)
    {b : Addr} {cellB : Cell} (hcell : T.heap[b]? = some cellB) (hobj : cellB.vm.isStatics = false) (hcls : s.vm.findClass C = some cellB.cls)
    {g : JFrame} (hg : g.method = m) (hsize : g.locals.size = c.maxLocals) {argsL rest : List Value} (hlen : ∀ sig, parseMethodDescriptor y.desc = some sig → argsL.length = sig.parameters.length)
    (hstack : g.stack = argsL.reverse ++ .ref b :: rest) (hW : 2 * g.monitorRoom + (rest.map fun v => v.category).sum ≤ W9) (hdg : decode c.code g.pc = .ok (.invokevirtual index, 3))
    (hpre : ∀ vm₁, s.WarmedH vm₁ → Pre ⟨T.setVm vm₁, locs, cells, slots⟩ (Value.ref b :: argsL).toArray) :
    ∃ (v : Option Value) (vm₁ : Vm) (B : Pt), s.WarmedH vm₁ ∧ Stand p l e R s m args below meth c B.U B.locs B.cells B.slots ∧ Post ⟨T.setVm vm₁, locs, cells, slots⟩ (Value.ref b :: argsL).toArray v B ∧
      ∀ target, Steps p.tables e below (B.U.setTop { g with pc := g.pc + 3, stack := v.toList ++ rest }) target → Steps p.tables e below (T.setTop g) target := by
  obtain ⟨mk, methM, hnamed, hmethM, hstM, habM⟩ := Cond.instanceMethod_spec hinst
  obtain ⟨m8, methM', cM, hn8, hmethM', -, -, -, -, -, -, hsigM⟩ := Cond.codeWith_spec hcode
  cases Option.some.inj (hn8.symm.trans hnamed)
  cases hmethM.symm.trans hmethM'
  obtain ⟨c2, r2, m2, q1, q2, q3, q4, kP, hkP, hkPi⟩ := Cond.selects_spec hsel
  cases hcls.symm.trans q1
  cases (State.methodFound?_of_named hnamed hy).symm.trans q2
  cases hnamed.symm.trans q3
  have hselP : selectMethod e.platform s.vm cellB.cls mk = .method mk := by rw [Launch.admits_selectMethod X.admits]; exact q4
  obtain ⟨vm₁, X₁, hstep₁⟩ := X.invokevirtual hexec hown hlink hnamed hmethM hstM hkP hkPi hy (a := b) (cell := cellB) hcell
    (fun z h => by rw [h] at hobj; cases hobj) hselP hmethM habM hkP hkPi (g := g) hg (argsL := argsL) (rest := rest) (hlen _ hsigM) hstack hdg
  obtain ⟨v, B, X', hpost, hsteps⟩ := hK m meth c ⟨T.setVm vm₁, locs, cells, slots⟩ { g with stack := rest } (.invokevirtual index) mk (Value.ref b :: argsL).toArray X₁ hg hsize hdg hW (X₁.named hnamed) (hpre vm₁ X₁.warmed)
  exact ⟨v, vm₁, B, X₁.warmed, X', hpost, fun target h => hstep₁ _ fun acts => by rw [doInvoke_state]; exact hsteps.trans h⟩
abbrev vx_CVW (R : Room) (s : State) (args : Array Value) (own C : String) (index : Nat) (y : MethodName) (bytes : ByteArray) (maxL : Nat) (ret : Option FieldType) (hh : List (Nat × Nat × Nat × Nat)) (ws : List Cond) (rm : Room) (mc ms n : Nat) : Prop :=
  (rm.cells = mc ∧ rm.slots = ms ∧ rm.frames + 1 ≤ R.frames ∧ 8 + (maxL + 11) + rm.locals ≤ R.locals ∧ (∀ w ∈ ws, ∀ (a' : Array Value) (U : State), s.WarmedH U.vm → w.before a' U = true) ∧ Cond.codeWith y bytes maxL ret hh ∈ ws) ∧
  (Cond.codeWith y bytes maxL ret hh).before args s = true ∧ (Cond.initialized y.cls).before args s = true ∧ (y.cls ≠ "java/lang/invoke/MethodHandle" ∧ y.cls ≠ "java/lang/invoke/VarHandle") ∧
  (∀ sig, parseMethodDescriptor y.desc = some sig → n = sig.parameters.length) ∧ (Cond.methodLink own index y).before args s = true ∧ (Cond.instanceMethod y).before args s = true ∧ (Cond.selects C y y).before args s = true
theorem vx_cwVW {own C : String} {index maxL mc ms : Nat} {y : MethodName} {bytes : ByteArray} {ret : Option FieldType} {hh : List (Nat × Nat × Nat × Nat)} {Ts ws ws' : List Cond} {rm : Room} (n : Nat) (ht : ∀ w ∈ Ts, w.before args s = true) (hT : GoodIn Ts (wsV own index C y ws)) (hw : ws = Cond.codeWith y bytes maxL ret hh :: ws') (hrc : rm.cells = mc) (hrs : rm.slots = ms)
    (hd : y.cls = C ∧ y.cls ≠ "java/lang/invoke/MethodHandle" ∧ y.cls ≠ "java/lang/invoke/VarHandle" ∧ (parseMethodDescriptor y.desc).map (fun d => d.parameters.length) = some n) (hR : rm.frames + 1 ≤ R.frames ∧ 8 + (maxL + 11) + rm.locals ≤ R.locals) :
    vx_CVW R s args own C index y bytes maxL ret hh ws rm mc ms n := by
  obtain ⟨hC, hd⟩ := hd
  subst hC
  have ok : ∀ w ∈ wsV own index y.cls y ws, w.before args s = true := fun w h => ht w (hT w h).1
  have hG : GoodIn Ts ws := fun w h => hT w (by unfold wsV; exact List.mem_append_right _ h)
  have hc : Cond.codeWith y bytes maxL ret hh ∈ ws := by rw [hw]; exact List.mem_cons_self
  refine ⟨⟨hrc, hrs, hR.1, hR.2, pay_in ht hG, hc⟩, ht _ (hG _ hc).1, ok _ (by simp [wsV]), ⟨hd.1, hd.2.1⟩, fun sig h => ?_, ok _ (by simp [wsV]), ok _ (by simp [wsV]), ok _ (by simp [wsV])⟩
  have h2 := hd.2.2
  rw [h] at h2
  exact (Option.some.inj h2).symm
theorem vx_runVW {y : MethodName} {bytes cc : ByteArray} {maxL nL mc ms n index : Nat} {ret : Option FieldType} {hh : List (Nat × Nat × Nat × Nat)} {ws : List Cond} {rm : Room} {Pc : Array Value → State → Prop} {Qc : Array Value → State → Outcome → State → Prop} {free : Addr → Prop} {Ts : List Cond} {own C : String} {b : Addr} {As rest : List Value} {g : JFrame}
    (S : CallFix p m c cc nL s args Ts own) (hM : Met l y ws rm Pc Qc mc ms free) (cw : vx_CVW R s args own C index y bytes maxL ret hh ws rm mc ms n) (hp : PreV s H C b Pc As)
    (hg : g.method = m) (hn : As.length = n) (hsize : g.locals.size = nL) (hstack : g.stack = As.reverse ++ .ref b :: rest) (hW : 2 * g.monitorRoom + (rest.map fun v => v.category).sum ≤ 8) (hdg : decode cc g.pc = .ok (.invokevirtual index, 3)) (hf : cells + mc ≤ R.cells ∧ slots + ms ≤ R.slots) :
    va_Run p l e R s m args below meth c H locs cells slots mc ms g rest (Qc (Value.ref b :: As).toArray) free := by
  obtain ⟨⟨hrc, hrs, hfr, hlo, hws, hcw⟩, hcode, hini, hy, hlen, hl, hin, hse⟩ := cw
  have hK : Back l R p e below s args y 3 8 (PreOf R mc ms Pc) (PostOf Qc mc ms free) := va_backW (hh := hh) (bytes := bytes) (maxL := maxL) (ret := ret) hM hp.1 hrc hrs hfr hlo hws hcw (fun a' U hW => word_at hW (Or.inl (by first | rfl | simp [Cond.onTables, Cond.keeps, Cond.steady])) hini)
  obtain ⟨hx, hb, hml, ho, -⟩ := S
  obtain ⟨-, ⟨cellB, hcB, hoB, hclB⟩, hPc⟩ := hp
  intro T hT X
  obtain ⟨v, vm₁, ⟨U', l2, c2, s2⟩, hW₁, X', ⟨g', mk, t, L, e1, e2, hq, h1, hL, h2, h3⟩, st⟩ := vx_callVW X hx (C := C) (hh := hh) (bytes := bytes) (maxL := maxL) (ret := ret) ho hl hin hse hcode hy hK (by rw [hT]; exact hcB) hoB hclB hg (hsize.trans hml.symm) (argsL := As) (rest := rest) (fun sig h => hn.trans (hlen sig h)) hstack hW (by rw [hb]; exact hdg)
    (fun vm₁ hW₁ => ⟨hf.1, hf.2, hPc (T.setVm vm₁) hT hW₁⟩)
  dsimp only [Pt.U, Pt.locs, Pt.cells, Pt.slots] at X' e1 e2 h1 h2 h3 st
  subst h1; subst h2; subst h3
  exact ⟨v, (T.setVm vm₁).calling g' mk (Value.ref b :: As).toArray, t, U', L, hT, X', hL, e1, e2, hq, st⟩
section
variable {y : MethodName} {bytes cc : ByteArray} {maxL nL mc ms n index : Nat} {ret : Option FieldType} {ws : List Cond} {rm : Room} {Pc : Array Value → State → Prop} {Qc : Array Value → State → Outcome → State → Prop} {XC : String → State → State → Prop} {free : Addr → Prop} {Ts : List Cond} {own C : String} {b : Addr} {As rest : List Value} {g : JFrame}
theorem vx_runVX {hh : List (Nat × Nat × Nat × Nat)} (S : CallFix p m c cc nL s args Ts own) (hM : vx_Met l y ws rm Pc Qc XC mc ms free) (cw : vx_CVW R s args own C index y bytes maxL ret hh ws rm mc ms n) (hp : PreV s H C b Pc As)
    (hg : g.method = m) (hn : As.length = n) (hsize : g.locals.size = nL) (hstack : g.stack = As.reverse ++ .ref b :: rest) (hW : 2 * g.monitorRoom + (rest.map fun v => v.category).sum ≤ 8) (hdg : decode cc g.pc = .ok (.invokevirtual index, 3)) (hf : cells + mc ≤ R.cells ∧ slots + ms ≤ R.slots) :
    vx_Run p l e R s m args below meth c H locs cells slots mc ms g rest (Qc (Value.ref b :: As).toArray) XC free := by
  obtain ⟨⟨hrc, hrs, hfr, hlo, hws, hcw⟩, hcode, hini, hy, hlen, hl, hin, hse⟩ := cw
  have hK : vx_Back l R p e below s args y 3 8 (PreOf R mc ms Pc) (PostOf Qc mc ms free) (vx_Post XC mc ms free) := vx_backW (hh := hh) (bytes := bytes) (maxL := maxL) (ret := ret) hM hp.1 hrc hrs hfr hlo hws hcw (fun a' U hW => word_at hW (Or.inl (by first | rfl | simp [Cond.onTables, Cond.keeps, Cond.steady])) hini)
  obtain ⟨hx, hb, hml, ho, -⟩ := S
  obtain ⟨-, ⟨cellB, hcB, hoB, hclB⟩, hPc⟩ := hp
  intro T hT X
  rcases vx_callVX X hx (C := C) (hh := hh) (bytes := bytes) (maxL := maxL) (ret := ret) ho hl hin hse hcode hy hK (by rw [hT]; exact hcB) hoB hclB hg (hsize.trans hml.symm) (argsL := As) (rest := rest) (fun sig h => hn.trans (hlen sig h)) hstack hW (by rw [hb]; exact hdg)
    (fun vm₁ hW₁ => ⟨hf.1, hf.2, hPc (T.setVm vm₁) hT hW₁⟩) with ⟨v, vm₁, ⟨U', l2, c2, s2⟩, hW₁, X', ⟨g', mk, t, L, e1, e2, hq, h1, hL, h2, h3⟩, st⟩ | ⟨q, vm₁, ⟨U', l2, c2, s2⟩, hW₁, X', ⟨g', mk, t, L, E, ce, e1, e2, hq, hce, hcv, hcl, h1, hL, h2, h3⟩, st⟩
  · dsimp only [Pt.U, Pt.locs, Pt.cells, Pt.slots] at X' e1 e2 h1 h2 h3 st
    subst h1; subst h2; subst h3
    exact Or.inl ⟨v, (T.setVm vm₁).calling g' mk (Value.ref b :: As).toArray, t, U', L, hT, X', hL, e1, e2, hq, st⟩
  · dsimp only [Pt.U, Pt.locs, Pt.cells, Pt.slots] at X' e1 e2 h1 h2 h3 st hcl
    subst h1; subst h2; subst h3
    exact Or.inr ⟨q, (T.setVm vm₁).calling g' mk (Value.ref b :: As).toArray, t, U', L, E, ce, hT, X', hL, e1, e2, hq, hce, hcv, vx_cls hW₁ hcl, st⟩
theorem vx_runSX {hh : List (Nat × Nat × Nat × Nat)} (S : CallFix p m c cc nL s args Ts own) (hM : vx_Met l y ws rm Pc Qc XC mc ms free) (cw : vx_CSW R s args own index y bytes maxL ret hh ws rm mc ms n) (hp : PreS s H Pc As)
    (hg : g.method = m) (hn : As.length = n) (hsize : g.locals.size = nL) (hstack : g.stack = As.reverse ++ rest) (hW : 2 * g.monitorRoom + (rest.map fun v => v.category).sum ≤ 8) (hdg : decode cc g.pc = .ok (.invokestatic index, 3)) (hf : cells + mc ≤ R.cells ∧ slots + ms ≤ R.slots) :
    vx_Run p l e R s m args below meth c H locs cells slots mc ms g rest (Qc As.toArray) XC free := by
  obtain ⟨⟨hrc, hrs, hfr, hlo, hws, hcw⟩, hcode, hini, hy, hlen, hl, hstt⟩ := cw
  have hK : vx_Back l R p e below s args y 3 8 (PreOf R mc ms Pc) (PostOf Qc mc ms free) (vx_Post XC mc ms free) := vx_backW (hh := hh) (bytes := bytes) (maxL := maxL) (ret := ret) hM hp.1 hrc hrs hfr hlo hws hcw (fun a' U hW => word_at hW (Or.inl (by first | rfl | simp [Cond.onTables, Cond.keeps, Cond.steady])) hini)
  obtain ⟨hx, hb, hml, ho, -⟩ := S
  intro T hT X
  rcases vx_callSX X hx (hh := hh) (bytes := bytes) (maxL := maxL) (ret := ret) ho hl hstt hini hcode hy hK hg (hsize.trans hml.symm) (argsL := As) (rest := rest) (fun sig h => hn.trans (hlen sig h)) hstack hW (by rw [hb]; exact hdg)
    (fun vm₁ hW₁ => ⟨hf.1, hf.2, hp.2 (T.setVm vm₁) hT hW₁⟩) with ⟨v, vm₁, ⟨U', l2, c2, s2⟩, hW₁, X', ⟨g', mk, t, L, e1, e2, hq, h1, hL, h2, h3⟩, st⟩ | ⟨q, vm₁, ⟨U', l2, c2, s2⟩, hW₁, X', ⟨g', mk, t, L, E, ce, e1, e2, hq, hce, hcv, hcl, h1, hL, h2, h3⟩, st⟩
  · dsimp only [Pt.U, Pt.locs, Pt.cells, Pt.slots] at X' e1 e2 h1 h2 h3 st
    subst h1; subst h2; subst h3
    exact Or.inl ⟨v, (T.setVm vm₁).calling g' mk As.toArray, t, U', L, hT, X', hL, e1, e2, hq, st⟩
  · dsimp only [Pt.U, Pt.locs, Pt.cells, Pt.slots] at X' e1 e2 h1 h2 h3 st hcl
    subst h1; subst h2; subst h3
    exact Or.inr ⟨q, (T.setVm vm₁).calling g' mk As.toArray, t, U', L, E, ce, hT, X', hL, e1, e2, hq, hce, hcv, vx_cls hW₁ hcl, st⟩
end
end VXH
theorem vx_ofWH {l : Launch} {y : MethodName} {ws ws' : List Cond} {rm : Room} {Pc : Array Value → State → Prop} {Qc : Array Value → State → Outcome → State → Prop} {XC : String → State → State → Prop} {mc ms : Nat} {free : Addr → Prop} {cc : ByteArray} {maxL : Nat} {ret : Option FieldType} {hh : List (Nat × Nat × Nat × Nat)}
    (hy : plainName y.cls = true) (hw : ws = Cond.codeWith y cc maxL ret hh :: ws')
    (body : ∀ p e s m args below meth c s₁, BodyLoose p l y (headSpec ws rm) cc maxL ret e s m args below meth c s₁ → c.maxLocals = maxL → Pc args s →
      W p l e (headSpec ws rm).room s m args below meth c s.heap [] 0 0 (vx_MQ below Qc XC args s mc ms free) (entryFrame m args maxL)) : vx_Met l y ws rm Pc Qc XC mc ms free := by
  refine MetFree.of_bodyS (code := cc) (maxLocals := maxL) (ret := ret) hy ?_ ?_
  · intro args s m h hn
    obtain ⟨m9, meth, c, hn9, h1, h2, h3, h4, -, h5, h6, -⟩ := Cond.codeWith_spec (atoms_spec (ws := ws) h _ (by rw [hw]; exact List.mem_cons_self))
    cases hn.symm.trans hn9
    exact ⟨meth, c, h1, h2, h3, h4, h5, h6⟩
  · intro p e s m args below meth c s₁ B hml hP _
    have hh0 : s₁.heap = s.heap := by rw [B.state]; rfl
    obtain ⟨t, a1, o, b1, b2, b3⟩ := body p e s m args below meth c s₁ B hml hP s₁ hh0 (Stand.of_body B)
    exact ⟨t, o, a1, b1, b2, b3⟩
/-! ===== END ===== -/
end
section
def zxR : ByteArray := ⟨#[0x2a, 0x2b, 0xb7, 0x00, 0x0d, 0xb1]⟩
/-- the two words of the kit's list that another constructor's code doesn't keep -/
def zxOk (w : Cond) : Bool := decide (w ≠ .code (Bundle.initS "java/util/NoSuchElementException") Bundle.six 2 none) && decide (w ≠ .methodLink "java/util/NoSuchElementException" 7 (Bundle.initS "java/lang/RuntimeException"))
def zxA (own : String) (ic : Nat) : List Cond := (.methodLink own ic (Bundle.initS "java/util/NoSuchElementException") :: Bundle.passSAtoms "java/util/NoSuchElementException" "java/lang/RuntimeException" 13 zxR) ++ (Bundle.ownAtoms own ic "java/util/NoSuchElementException" ["java/lang/RuntimeException", "java/lang/Exception"]).filter zxOk
def zx_at (own : String) (ic : Nat) : List Cond := (zxA own ic).filter vx_no
theorem zx_w {args : Array Value} {s : State} {own : String} {ic : Nat} (h : ∀ w ∈ zxA own ic, w.before args s = true) {w : Cond} (h1 : zxOk w = true) (h2 : w ∈ Bundle.ownAtoms own ic "java/util/NoSuchElementException" ["java/lang/RuntimeException", "java/lang/Exception"]) : w.before args s = true := h w (List.mem_append_right _ (List.mem_filter.mpr ⟨h2, h1⟩))
theorem zxT : ∀ w ∈ Bundle.throwableAtoms, zxOk w = true := by decide +kernel
theorem zxS : ∀ w ∈ Bundle.throwableSAtoms, zxOk w = true := by decide +kernel
theorem zxC : ∀ w ∈ Bundle.chainSAtoms "java/lang/RuntimeException" ["java/lang/Exception"], zxOk w = true := by decide +kernel
theorem zx_chain {args : Array Value} {s : State} {pl : Platform} (hpl : pl.magicAccessors = ({} : Platform).magicAccessors) {top : MethodId} (htop : s.methodNamed? (Bundle.initS Bundle.tN) = some top) {own : String} {ic : Nat} (h : ∀ w ∈ zxA own ic, w.before args s = true) :
    ∃ (P1 : PassC) (Ps : List PassC), Ps.length = 2 ∧ P1.LinksS pl s ∧ (∀ P, P ∈ Ps → P.LinksS pl s) ∧ s.methodNamed? (Bundle.initS "java/util/NoSuchElementException") = some P1.m ∧ P1.sup = firstOf top (Ps.map (·.toPassT)) ∧ PassesOn top (Ps.map (·.toPassT)) := by
  obtain ⟨P2, Ps, g1, g2, g3, g4, g5, g6⟩ := Bundle.chainS (args := args) hpl htop ["java/lang/Exception"] "java/lang/RuntimeException" (by decide +kernel) (by decide +kernel) (fun w hw => zx_w h (zxC w hw) (by
    simp only [Bundle.ownAtoms, Bundle.chainSAtoms, List.mem_append] at hw ⊢
    rcases hw with hw | hw
    · exact Or.inl (Or.inr (Or.inr (Or.inl hw)))
    · exact Or.inl (Or.inr (Or.inr (Or.inr hw)))))
  obtain ⟨P1, f1, f2, f3⟩ := PassC.ofS_atoms (args := args) (s := s) hpl (X := "java/util/NoSuchElementException") (Y := "java/lang/RuntimeException") (index := 13) (bytes := zxR) (by decide +kernel) (by decide +kernel) (by decide +kernel) (by decide +kernel) (by decide +kernel) (by decide +kernel)
    (fun w hw => h w (List.mem_append_left _ (List.mem_cons_of_mem _ hw)))
  refine ⟨P1, P2 :: Ps, by rw [List.length_cons, g1]; rfl, f1, fun P hP => ?_, f2, Option.some.inj (f3.symm.trans g4), g5, g6⟩
  rcases List.mem_cons.mp hP with e | hP
  · rw [e]; exact g2
  · exact g3 P hP
set_option maxHeartbeats 1000000 in
/-- 'invokespecial NoSuchElementException.<init>(String)' on a new cell, and the athrow behind it -/
theorem zx_ctor {p : Program} {l : Launch} {e : Env} {R : Room} {s : State} {m : MethodId} {args : Array Value} {below : List Frame} {meth : Method} {c : Code} {T0 : State} {locs : List Loc} {cells slots : Nat}
    (X : Stand p l e R s m args below meth c T0 locs cells slots) (hexec : p.tables.exec = Jvm.exec) (htr : e.platform.stackTraces = false) {own : String} {ic : Nat} (hown : s.vm.findClass own = some m.cls) (h : ∀ w ∈ zxA own ic, w.before args s = true)
    (hlocs : ∀ x ∈ locs, ∀ cell, s.heap[x.base]? = some cell → cell.vm.isStatics = false) {a : Addr} {cX : ClassId} {kX : Class} (hfX : s.vm.findClass "java/util/NoSuchElementException" = some cX) (hkX : s.vm.classes[cX]? = some kX) (hcell : T0.heap[a]? = some (freshCell cX kX)) (hnew : s.heap.size ≤ a)
    {msg : Value} (hmsg : msg.isRef = true) {g : JFrame} (hg : g.method = m) (hsize : g.locals.size = c.maxLocals) (hlocked : g.locked = none) (hentered : g.entered = []) {rest : List Value} (hstack : g.stack = msg :: .ref a :: .ref a :: rest)
    (d6 : decode c.code g.pc = .ok (.invokespecial ic, 3)) (d9 : decode c.code (g.pc + 3) = .ok (.athrow, 1)) (hout : ∀ x ∈ c.exceptionTable.toList, covers x (g.pc + 3) = false)
    (hRf : 5 < R.frames) (hRl : 2 * g.monitorRoom + ((Value.ref a :: rest).map fun v => v.category).sum + 81 ≤ R.locals) (hlocks : meth.locks = false) :
    ∃ U : State, Steps p.tables e below (T0.setTop g) U ∧ U.status = .running ∧ Ended U below (.threw a) ∧ s.WarmedH U.vm ∧ s.sameButNew ({ U with vm := s.vm } : State) locs cells slots ∧
      ∃ ce : Cell, U.heap[a]? = some ce ∧ s.vm.findClass "java/util/NoSuchElementException" = some ce.cls ∧ ce.vm = .none := by
  have hpl : e.platform.magicAccessors = ({} : Platform).magicAccessors := by rw [X.admits.platform]
  obtain ⟨T, Z0, L, -, Y⟩ := ThrowableC.of_atoms (args := args) (s := s) (pl := e.platform) (by rw [X.admits.platform]) (by rw [X.admits.platform]) hpl (fun w hw => zx_w h (zxT w hw) (by simp [Bundle.ownAtoms, hw]))
  obtain ⟨Z, M, LZ, LM, hnZ⟩ := Init0T.ofS_atoms (args := args) hpl L Y (fun w hw => zx_w h (zxS w hw) (by simp [Bundle.ownAtoms, hw]))
  obtain ⟨P1, Ps, hlen, L1, hL, hP1m, hlink1, hlink⟩ := zx_chain (args := args) hpl hnZ h
  have hfd : s.vm.findClass "java/util/NoSuchElementException" = some P1.m.cls := findClass_of_methodNamed hP1m
  cases Option.some.inj (hfX.symm.trans hfd)
  obtain ⟨c1, k1, q1, q2, hord, -, -, -⟩ := Cond.instantiable_spec (first := s) (o := none) (idx := []) (zx_w h (w := .instantiable "java/util/NoSuchElementException" 6) (by decide +kernel) (by simp [Bundle.ownAtoms]))
  cases Option.some.inj (q1.symm.trans hfd)
  cases Option.some.inj (hkX.symm.trans q2)
  have sel0 : selectMethod e.platform s.vm P1.m.cls T.fill0 = .method T.fill0 := by
    obtain ⟨c2, r2, m2, w1, w2, w3, w4, -⟩ := Cond.selects_spec (first := s) (o := none) (idx := []) (zx_w h (w := .selects "java/util/NoSuchElementException" Bundle.tFill0 Bundle.tFill0) (by decide +kernel) (by simp [Bundle.ownAtoms]))
    cases Option.some.inj (w1.symm.trans hfd)
    cases Option.some.inj (w2.symm.trans (State.methodFound?_of_named Y.fill0 (by decide)))
    cases Option.some.inj (w3.symm.trans Y.fill0)
    rw [Launch.admits_selectMethod X.admits]
    exact w4
  have selF : selectMethod e.platform s.vm P1.m.cls T.fill = .method T.fill := by
    obtain ⟨c2, r2, m2, w1, w2, w3, w4, -⟩ := Cond.selects_spec (first := s) (o := none) (idx := []) (zx_w h (w := .selects "java/util/NoSuchElementException" Bundle.tFill Bundle.tFill) (by decide +kernel) (by simp [Bundle.ownAtoms]))
    cases Option.some.inj (w1.symm.trans hfd)
    cases Option.some.inj (w2.symm.trans (State.methodFound?_of_named Y.fill (by decide)))
    cases Option.some.inj (w3.symm.trans Y.fill)
    rw [Launch.admits_selectMethod X.admits]
    exact w4
  obtain ⟨cS0, hcS0, hiS⟩ := Y.statics
  obtain ⟨u0, hu0⟩ := Cond.staticRefV Y.unassigned L.unassignedStatic L.statics hcS0 hiS (zx_w h (w := .isRef (.static Bundle.tN "UNASSIGNED_STACK" Bundle.steD)) (by decide +kernel) (by simp [Bundle.ownAtoms]))
  obtain ⟨sen, hsen⟩ := Cond.staticRefV Y.sentinel L.sentinelStatic L.statics hcS0 hiS (zx_w h (w := .isRef (.static Bundle.tN "SUPPRESSED_SENTINEL" Bundle.listD)) (by decide +kernel) (by simp [Bundle.ownAtoms]))
  obtain ⟨ci9, i9, fB, b1, b2, b3, b4, -, nB, tB, hB⟩ := Cond.ownField (t := .object "java/lang/Object") Y.found L.cls (by decide +kernel) (zx_w h (w := .fieldLink Bundle.tN 198 Bundle.tN "backtrace" "Ljava/lang/Object;") (by decide +kernel) (by simp [Bundle.ownAtoms])) (zx_w h (w := .lays Bundle.tN Bundle.tN "backtrace" "Ljava/lang/Object;") (by decide +kernel) (by simp [Bundle.ownAtoms])) e.platform hpl
  obtain ⟨cS, hcS, heS, -, hkp⟩ := X.same.2.2.2.2.2 T.aS cS0 hcS0
  have hno : ∀ i, (⟨T.aS, i⟩ : Loc) ∉ locs := fun i hm => by
    have h9 := hlocs _ hm cS0 hcS0
    rw [hiS] at h9
    cases h9
  have hknS : cS.vm ≠ .unknown := by
    rw [heS]
    intro h9
    rw [show cS0.vm = .unknown from h9] at hiS
    cases hiS
  have hneS : T.aS ≠ a := Nat.ne_of_lt (Nat.lt_of_lt_of_le (Array.getElem?_eq_some_iff.mp hcS0).1 hnew)
  obtain ⟨iM, hM⟩ := Y.msg
  obtain ⟨tyC, eC, gC, rC⟩ := Cond.laysAt hfd q2 Y.cause (zx_w h (w := .lays "java/util/NoSuchElementException" Bundle.tN "cause" "Ljava/lang/Throwable;") (by decide +kernel) (by simp [Bundle.ownAtoms]))
  obtain ⟨tyS, eS, gS, rS⟩ := Cond.laysAt hfd q2 Y.stack (zx_w h (w := .lays "java/util/NoSuchElementException" Bundle.tN "stackTrace" Bundle.steD) (by decide +kernel) (by simp [Bundle.ownAtoms]))
  obtain ⟨tyP, eP, gP, rP⟩ := Cond.laysAt hfd q2 Y.supp (zx_w h (w := .lays "java/util/NoSuchElementException" Bundle.tN "suppressedExceptions" Bundle.listD) (by decide +kernel) (by simp [Bundle.ownAtoms]))
  obtain ⟨tyM, eM, gM, rM⟩ := Cond.laysAt hfd q2 hM (zx_w h (w := .lays "java/util/NoSuchElementException" Bundle.tN "detailMessage" "Ljava/lang/String;") (by decide +kernel) (by simp [Bundle.ownAtoms]))
  obtain ⟨tyB, eB, gB, rB⟩ := Cond.laysAt hfd q2 hB (zx_w h (w := .lays "java/util/NoSuchElementException" Bundle.tN "backtrace" "Ljava/lang/Object;") (by decide +kernel) (by simp [Bundle.ownAtoms]))
  have aC := Cond.laysApart gB gC rB rC (by rw [nB, Y.causeName]; decide)
  have aS := Cond.laysApart gB gS rB rS (by rw [nB, Y.stackName]; decide)
  have aP := Cond.laysApart gB gP rB rP (by rw [nB, Y.suppName]; decide)
  have hskip : SkipFacts T e.platform s (fun u => u) u0 ((preparedCellV T.toThrowableT (freshCell P1.m.cls kX) a u0 sen).withEntry T0.cur) := by
    refine ⟨{ ci198 := ci9, i198 := i9, fBack := fB }, ⟨b1, b2, b3, b4⟩, ?_, fun _ _ => rfl⟩
    have h9 := fresh_default (c := P1.m.cls) tyB
    rw [tB] at h9
    simpa [preparedCellV, Cell.setSlot, Cell.withEntry, Array.getElem?_setIfInBounds, aC, aS, aP, aC.symm, aS.symm, aP.symm, defaultValue] using h9
  obtain ⟨tm, methC, cdC, kC, vm1, hnC, -, -, -, -, -, -, -, hW1, st1⟩ := Steps.initColdS (tb := p.tables) (e := e) (below := below) (s := s) (U := T0) X.here hexec X.warmed hpl hown (t := Bundle.initS "java/util/NoSuchElementException") rfl rfl (by decide +kernel)
    (h (.methodLink own ic (Bundle.initS "java/util/NoSuchElementException")) (List.mem_append_left _ List.mem_cons_self)) (h (.instanceMethod (Bundle.initS "java/util/NoSuchElementException")) (List.mem_append_left _ (List.mem_cons_of_mem _ (by simp [Bundle.passSAtoms])))) (bytes := zxR) (maxL := 2) (h (.code (Bundle.initS "java/util/NoSuchElementException") zxR 2 none) (List.mem_append_left _ (List.mem_cons_of_mem _ (by simp [Bundle.passSAtoms]))))
    (f := g) hg (a := a) (msg := msg) (rest := .ref a :: rest) hstack d6
  cases Option.some.inj (hnC.symm.trans hP1m)
  have X1 := X.noted hW1
  obtain ⟨vm2, X2, st2⟩ := X1.ctorMessageOffV hexec (g := { g with stack := .ref a :: rest }) hg hsize T L Z LZ M LM (P1 :: Ps)
    (fun P hP => (List.mem_cons.mp hP).elim (fun e9 => e9 ▸ L1) (fun h9 => hL P h9)) ⟨hlink1, hlink⟩ (u0 := u0) (sen := sen) (self := a) hmsg (cell := freshCell P1.m.cls kX) (cellS := cS)
    hcell (fun _ => by simp) (by simp) rfl rfl sel0 selF hcS hneS hknS (by rw [hkp _ (hno _)]; exact hu0) (by rw [hkp _ (hno _)]; exact hsen)
    (Takes.of_laid q2 hord tyC (by rw [Y.causeType]; rfl)) (Takes.of_laid q2 hord tyS (by rw [Y.stackType]; exact fits_refV_array _ u0)) (Takes.of_laid q2 hord tyP (by rw [Y.suppType]; exact fits_refV_object _ sen))
    (Takes.of_laid q2 hord tyM (by rw [Y.msgType]; exact fits_refV_object _ ⟨msg, hmsg⟩)) Y.objLocals hskip htr [] d6
    (by simp only [List.length_cons, hlen]; omega) (by simp only [List.length_cons, hlen]; exact hRl)
  obtain ⟨hw, hrun, hend, hWU, hsame⟩ := X2.athrowLeaves hexec (g := { g with stack := .ref a :: rest, pc := g.pc + 3 }) hg hlocked hentered hout (a := a) (rest := rest) rfl d9
  have hlt : a < ((T0.setVm vm1).setVm vm2).heap.size := (Array.getElem?_eq_some_iff.mp hcell).1
  have hU := heapAt_setCell_self (s := (T0.setVm vm1).setVm vm2) (plainBareV T.toThrowableT (freshCell P1.m.cls kX) a u0 sen msg) hlt
  refine ⟨_, st1 _ (fun acts => ?_), hrun, hend, hWU, hsame.weaken (fun y hy hlt9 => ?_) (Nat.le_refl _) (Nat.le_refl _), _, hU, hfd, rfl⟩
  · rw [doInvoke_state]
    exact st2 _ hw
  · rcases List.mem_append.mp hy with h1 | h1
    · exact h1
    · have hb : y.base = a := by
        simp only [List.mem_cons, List.not_mem_nil, or_false] at h1
        rcases h1 with h1 | h1 | h1 | h1 | h1 <;> rw [h1]
      rw [hb] at hlt9
      exact absurd hlt9 (Nat.not_lt.mpr hnew)

section VXN
variable {p : Program} {l : Launch} {e : Env} {R : Room} {s : State} {m : MethodId} {args : Array Value} {below : List Frame} {meth : Method} {c : Code} {H : Heap} {locs : List Loc} {cells slots : Nat} {ls : Array Slot} {rest : List Value} {free : Addr → Prop} {Qc : Array Value → State → Outcome → State → Prop} {XC : String → State → State → Prop}
theorem zx_throw {cc : ByteArray} {pc : Nat} (hexec : p.tables.exec = Jvm.exec) (hb : c.code = cc) (hl : l.stackTraces = false) {own text : String} {ik is ic mc ms sa : Nat} {A : Nat → Prop}
    (hown : s.vm.findClass own = some m.cls)
    (hk : (Cond.classLink own ik "java/util/NoSuchElementException").before args s = true) (hini : (Cond.initialized "java/util/NoSuchElementException").before args s = true) (hstr : vk_R own is text sa s) (hat : ∀ w ∈ zx_at own ic, w.before args s = true)
    (hgood : ∀ w ∈ Cond.classLink own ik "java/util/NoSuchElementException" :: Cond.initialized "java/util/NoSuchElementException" :: zx_at own ic, vx_ot w = true)
    (hU : vx_Zq Bundle.tN "UNASSIGNED_STACK" Bundle.steD A s s.heap) (hN : vx_Zq Bundle.tN "SUPPRESSED_SENTINEL" Bundle.listD A s s.heap) (hS : va_S A s.heap H locs) (hsize : ls.size = c.maxLocals)
    (d0 : decode cc pc = .ok (.new ik, 3)) (d3 : decode cc (pc + 3) = .ok (.dup, 1)) (d4 : decode cc (pc + 4) = .ok (.ldc is, 2)) (d6 : decode cc (pc + 6) = .ok (.invokespecial ic, 3)) (d9 : decode cc (pc + 9) = .ok (.athrow, 1))
    (hout : ∀ x ∈ c.exceptionTable.toList, covers x (pc + 9) = false)
    (hRframes : 5 < R.frames) (hRlocals : (rest.map fun v => v.category).sum + (82) ≤ R.locals) (hRcells : cells + 1 ≤ R.cells) (hRslots : slots + 6 ≤ R.slots) (hlocks : meth.locks = false)
    (hx : ∀ t : State, s.vm.Alike t.vm → H.size ≤ t.heap.size → (∀ q : Nat, q < H.size → t.heap[q]? = H[q]?) → XC "java/util/NoSuchElementException" s t)
    (hf : ∀ z ∈ locs, free z.base) (hc : cells + 1 ≤ mc) (hs : slots + 6 ≤ ms) :
    W p l e R s m args below meth c H locs cells slots (vx_MQ below Qc XC args s mc ms free) (F0 m pc ls rest) := by
  intro T hT X
  have htr : e.platform.stackTraces = false := (show e.platform.stackTraces = l.stackTraces by rw [X.admits.platform]).trans hl
  have Y := vx_rebase X (R' := { frames := R.frames, locals := R.locals, cells := 1, slots := 6 }) (Nat.le_refl _) (Nat.le_refl _) hRcells hRslots
  obtain ⟨s', hA⟩ : ∃ z, z = (T.setVm s.vm).setFrames (.invoking m args :: below) := ⟨_, rfl⟩
  rw [← hA] at Y
  have hvm : s'.vm = s.vm := by rw [hA]; rfl
  have hhp : s'.heap = H := by rw [hA]; exact hT
  have hW0 : s.WarmedH s'.vm := by rw [hvm]; exact State.WarmedH.refl s
  have hat' : ∀ w ∈ zx_at own ic, w.before args s' = true := fun w hw => vx_ot_at hW0 hvm.symm (hgood w (List.mem_cons_of_mem _ (List.mem_cons_of_mem _ hw))) (hat w hw)
  have hk' : (Cond.classLink own ik "java/util/NoSuchElementException").before args s' = true := vx_ot_at hW0 hvm.symm (hgood _ List.mem_cons_self) hk
  have hini' : (Cond.initialized "java/util/NoSuchElementException").before args s' = true := vx_ot_at hW0 hvm.symm (hgood _ (List.mem_cons_of_mem _ List.mem_cons_self)) hini
  have hU' : vx_Zq Bundle.tN "UNASSIGNED_STACK" Bundle.steD A s' s'.heap := by rw [hhp]; exact vx_Zq.moved hW0.alike (hU.kept hS.2.1)
  have hN' : vx_Zq Bundle.tN "SUPPRESSED_SENTINEL" Bundle.listD A s' s'.heap := by rw [hhp]; exact vx_Zq.moved hW0.alike (hN.kept hS.2.1)
  have h : ∀ w ∈ zxA own ic, w.before args s' = true := vx_own hat' (vx_isRefq hU'.1) (vx_isRefq hN'.1) hU'.2.word hN'.2.word
  have hown' : s'.vm.findClass own = some m.cls := by rw [hvm]; exact hown
  have hins : (Cond.instantiable "java/util/NoSuchElementException" 6).before args s' = true := zx_w h rfl (by simp [Bundle.ownAtoms])
  obtain ⟨vm₁, cX, kX, hfX, hkX, -, -, X₁, st1⟩ := Y.newCold hexec (own := own) (C := "java/util/NoSuchElementException") (index := ik) (n := 6) hown' hk' hins hini'
    (g := F0 m pc ls rest) rfl (by rw [hb]; exact d0) (Nat.le_refl _) (Nat.le_refl _)
  generalize hT1 : (T.setVm vm₁).pushCell { cls := cX, slots := kX.instanceTypes.map defaultValue, vm := .none } = T1 at X₁ st1
  have hcat : (Value.ref T.heap.size).category = 1 := rfl
  have hcellA : T1.heap[T.heap.size]? = some (freshCell cX kX) := by rw [← hT1]; exact State.heap_pushCell_size _ _
  have d3' : decode c.code (pc + 3) = .ok (.dup, 1) := by rw [hb]; exact d3
  have d4' : decode c.code (pc + 4) = .ok (.ldc is, 2) := by rw [hb]; exact d4
  have hstr' : vk_R own is text sa s' := vk_R.warm hW0 hstr
  obtain ⟨U, hsteps, hrun, hend, hW, hsame, ce, hce, hcl0, hvm0⟩ := zx_ctor X₁ hexec htr (own := own) (ic := ic) hown' h (fun x hx => nomatch hx) hfX hkX hcellA (by rw [hhp, hT]; exact Nat.le_refl _) (msg := .ref sa) rfl
    (g := { method := m, pc := pc + 6, locals := ls, stack := .ref sa :: .ref T.heap.size :: .ref T.heap.size :: rest, locked := none }) rfl hsize rfl rfl (rest := rest) rfl
    (by rw [hb]; exact d6) (by rw [hb]; exact d9) hout hRframes (by simp only [List.map_cons, List.sum_cons, hcat]; omega) hlocks
  obtain ⟨f1, f2⟩ := vx_frame hsame
  rw [hhp] at f1 f2
  have hWs : s.WarmedH U.vm := State.WarmedH.trans hW0 hW
  have hcl : s.vm.findClass "java/util/NoSuchElementException" = some ce.cls := by
    rw [hvm] at hcl0
    exact hcl0
  have hall : s.sameButNew ({ U with vm := s.vm } : State) locs mc ms := by
    subst hA
    obtain ⟨e1, e2⟩ := hsame
    rw [State.setFrames_setFrames] at e1
    have h2 : (T.setVm s.vm).sameButNew ({ U with vm := s.vm } : State) [] (0 + 1) (0 + 6) := ⟨e1, e2⟩
    have h3 := X.same.trans h2
    rw [List.append_nil] at h3
    exact h3.mono hc hs
  refine ⟨U, ?_, .threw T.heap.size, hrun, hend, Or.inr ⟨T.heap.size, rfl, "java/util/NoSuchElementException", ce, locs, hx U hWs.alike f1 (fun q hq => f2 q hq (fun z hz => nomatch hz)), hce, hvm0, hcl, hWs, hall, hf⟩⟩
  refine st1 _ ?_
  show Steps p.tables e below (T1.setTop { method := m, pc := pc + 3, locals := ls, stack := .ref T.heap.size :: rest, locked := none }) _
  jvm_step X₁.here [X₁.here.top, hexec, d3', Value.category]
  exact X₁.ldcString hexec (own := own) (text := text) (index := is) (a := sa) hown' hstr'.1 hstr'.2
    (g := { method := m, pc := pc + 4, locals := ls, stack := .ref T.heap.size :: .ref T.heap.size :: rest, locked := none }) rfl d4' _ hsteps
end VXN
end
section
def RX0 : String := "Shedwheel$Feeder"
def TX0 : u_T := fun k => match k with
  | 0 => ("Shedwheel$Feeder", "stage", "I", true)
  | 1 => ("Shedwheel$Feeder", "megawatts", "I", false)
  | 2 => ("Shedwheel$Feeder", "critical", "Z", false)
  | 3 => ("Shedwheel$Feeder", "off", "Z", false)
  | 4 => ("Shedwheel$Feeder", "hoursOff", "I", false)
  | 5 => ("Shedwheel$Feeder", "hoursOfThisCut", "I", false)
  | _ => ("Shedwheel$Feeder", "coldPart", "I", false)
def tyX0 : Nat → FieldType := fun k => match k with
  | 0 => .int
  | 1 => .int
  | 2 => .boolean
  | 3 => .boolean
  | 4 => .int
  | 5 => .int
  | _ => .int
abbrev wsX00 : List Cond := u_ws RX0 TX0 7
theorem nmX0 : ∀ a, a < 7 → ∀ b, b < 7 → a ≠ b → (TX0 a).2.1 ≠ (TX0 b).2.1 := by decide +kernel
theorem tyX0_ok : ∀ k, k < 7 → parseFieldDescriptor (TX0 k).2.2.1 = some (tyX0 k) := by decide +kernel
abbrev cX0_init : ByteArray := prog_2_method_1_code
def yX0_init : MethodName := ⟨RX0, "<init>", "(IZI)V"⟩
abbrev cX0_mayBeCut : ByteArray := prog_2_method_2_code
def yX0_mayBeCut : MethodName := ⟨RX0, "mayBeCut", "()Z"⟩
abbrev cX0_mayReturn : ByteArray := prog_2_method_3_code
def yX0_mayReturn : MethodName := ⟨RX0, "mayReturn", "()Z"⟩
abbrev cX0_taken : ByteArray := prog_2_method_4_code
def yX0_taken : MethodName := ⟨RX0, "taken", "()I"⟩
abbrev cX0_takenIfRestored : ByteArray := prog_2_method_5_code
def yX0_takenIfRestored : MethodName := ⟨RX0, "takenIfRestored", "()I"⟩
abbrev cX0_withCold : ByteArray := prog_2_method_6_code
def yX0_withCold : MethodName := ⟨RX0, "withCold", "(I)I"⟩
abbrev cX0_coldOnReturn : ByteArray := prog_2_method_7_code
def yX0_coldOnReturn : MethodName := ⟨RX0, "coldOnReturn", "()I"⟩
abbrev cX0_switchOff : ByteArray := prog_2_method_8_code
def yX0_switchOff : MethodName := ⟨RX0, "switchOff", "()I"⟩
abbrev cX0_switchOn : ByteArray := prog_2_method_9_code
def yX0_switchOn : MethodName := ⟨RX0, "switchOn", "()V"⟩
abbrev cX0_letPass : ByteArray := prog_2_method_10_code
def yX0_letPass : MethodName := ⟨RX0, "letPass", "(I)V"⟩
def RX1 : String := "Shedwheel$Search"
def TX1 : u_T := fun k => match k with
  | 0 => ("Shedwheel$Search", "bits", "[I", true)
  | 1 => ("Shedwheel$Search", "takenBy", "[I", true)
  | 2 => ("Shedwheel$Search", "hoursOf", "[I", true)
  | 3 => ("Shedwheel$Search", "takenBelow", "[I", true)
  | 4 => ("Shedwheel$Search", "count", "I", false)
  | 5 => ("Shedwheel$Search", "shortfall", "I", false)
  | 6 => ("Shedwheel$Search", "nearLimit", "I", false)
  | 7 => ("Shedwheel$Search", "bestSet", "I", false)
  | 8 => ("Shedwheel$Search", "bestTaken", "I", false)
  | _ => ("Shedwheel$Search", "bestHours", "I", false)
def tyX1 : Nat → FieldType := fun k => match k with
  | 0 => .array .int
  | 1 => .array .int
  | 2 => .array .int
  | 3 => .array .int
  | 4 => .int
  | 5 => .int
  | 6 => .int
  | 7 => .int
  | 8 => .int
  | _ => .int
abbrev wsX10 : List Cond := u_ws RX1 TX1 10
theorem nmX1 : ∀ a, a < 10 → ∀ b, b < 10 → a ≠ b → (TX1 a).2.1 ≠ (TX1 b).2.1 := by decide +kernel
theorem tyX1_ok : ∀ k, k < 10 → parseFieldDescriptor (TX1 k).2.2.1 = some (tyX1 k) := by decide +kernel
abbrev cX1_init : ByteArray := prog_3_method_1_code
def yX1_init : MethodName := ⟨RX1, "<init>", "()V"⟩
abbrev cX1_begin : ByteArray := prog_3_method_2_code
def yX1_begin : MethodName := ⟨RX1, "begin", "(II)V"⟩
abbrev cX1_offer : ByteArray := prog_3_method_3_code
def yX1_offer : MethodName := ⟨RX1, "offer", "(III)V"⟩
abbrev cX1_bestByWalking : ByteArray := prog_3_method_4_code
def yX1_bestByWalking : MethodName := ⟨RX1, "bestByWalking", "()I"⟩
abbrev cX1_walk : ByteArray := prog_3_method_5_code
def yX1_walk : MethodName := ⟨RX1, "walk", "(LShedwheel$Search;IIII)V"⟩
abbrev cX1_weigh : ByteArray := prog_3_method_8_code
def yX1_weigh : MethodName := ⟨RX1, "weigh", "(III)V"⟩
abbrev cX1_isBetter : ByteArray := prog_3_method_9_code
def yX1_isBetter : MethodName := ⟨RX1, "isBetter", "(III)Z"⟩
def RX2 : String := "Shedwheel"
def TX2 : u_T := fun k => match k with
  | 0 => ("Shedwheel", "told", "Ljava/util/ArrayList;", true)
  | 1 => ("Shedwheel", "search", "LShedwheel$Search;", true)
  | 2 => ("Shedwheel", "now", "I", false)
  | _ => ("Shedwheel", "slackNow", "I", false)
def tyX2 : Nat → FieldType := fun k => match k with
  | 0 => .object "java/util/ArrayList"
  | 1 => .object "Shedwheel$Search"
  | 2 => .int
  | _ => .int
abbrev wsX20 : List Cond := u_ws RX2 TX2 4
theorem nmX2 : ∀ a, a < 4 → ∀ b, b < 4 → a ≠ b → (TX2 a).2.1 ≠ (TX2 b).2.1 := by decide +kernel
theorem tyX2_ok : ∀ k, k < 4 → parseFieldDescriptor (TX2 k).2.2.1 = some (tyX2 k) := by decide +kernel
abbrev cX2_init : ByteArray := prog_1_method_1_code
def yX2_init : MethodName := ⟨RX2, "<init>", "()V"⟩
abbrev cX2_feeder : ByteArray := prog_1_method_2_code
def yX2_feeder : MethodName := ⟨RX2, "feeder", "(IZI)I"⟩
abbrev cX2_setSlack : ByteArray := prog_1_method_5_code
def yX2_setSlack : MethodName := ⟨RX2, "setSlack", "(I)I"⟩
abbrev cX2_pass : ByteArray := prog_1_method_6_code
def yX2_pass : MethodName := ⟨RX2, "pass", "(I)I"⟩
abbrev cX2_relieve : ByteArray := prog_1_method_7_code
def yX2_relieve : MethodName := ⟨RX2, "relieve", "(I)I"⟩
abbrev cX2_rotate : ByteArray := prog_1_method_8_code
def yX2_rotate : MethodName := ⟨RX2, "rotate", "()I"⟩
abbrev cX2_restore : ByteArray := prog_1_method_10_code
def yX2_restore : MethodName := ⟨RX2, "restore", "(I)I"⟩
abbrev cX2_hour : ByteArray := prog_1_method_12_code
def yX2_hour : MethodName := ⟨RX2, "hour", "()I"⟩
abbrev cX2_feeders : ByteArray := prog_1_method_13_code
def yX2_feeders : MethodName := ⟨RX2, "feeders", "()I"⟩
abbrev cX2_isCut : ByteArray := prog_1_method_14_code
def yX2_isCut : MethodName := ⟨RX2, "isCut", "(I)Z"⟩
abbrev cX2_takes : ByteArray := prog_1_method_15_code
def yX2_takes : MethodName := ⟨RX2, "takes", "(I)I"⟩
abbrev cX2_cold : ByteArray := prog_1_method_16_code
def yX2_cold : MethodName := ⟨RX2, "cold", "(I)I"⟩
abbrev cX2_hours : ByteArray := prog_1_method_17_code
def yX2_hours : MethodName := ⟨RX2, "hours", "(I)I"⟩
abbrev cX2_load : ByteArray := prog_1_method_18_code
def yX2_load : MethodName := ⟨RX2, "load", "()I"⟩
abbrev cX2_choice : ByteArray := prog_1_method_20_code
def yX2_choice : MethodName := ⟨RX2, "choice", "(I)I"⟩
abbrev cX2_loadRestored : ByteArray := prog_1_method_23_code
def yX2_loadRestored : MethodName := ⟨RX2, "loadRestored", "()I"⟩
abbrev cX2_requireWithin : ByteArray := prog_1_method_24_code
def yX2_requireWithin : MethodName := ⟨RX2, "requireWithin", "(III)V"⟩
abbrev cX2_feederOf : ByteArray := prog_1_method_25_code
def yX2_feederOf : MethodName := ⟨RX2, "feederOf", "(I)LShedwheel$Feeder;"⟩
abbrev cX2_holds : ByteArray := prog_1_method_26_code
def yX2_holds : MethodName := ⟨RX2, "holds", "(II)Z"⟩
abbrev cX2_takenByReturning : ByteArray := prog_1_method_27_code
def yX2_takenByReturning : MethodName := ⟨RX2, "takenByReturning", "()I"⟩
abbrev cX2_swapFor : ByteArray := prog_1_method_28_code
def yX2_swapFor : MethodName := ⟨RX2, "swapFor", "(I)I"⟩
abbrev cX2_chosenFor : ByteArray := prog_1_method_29_code
def yX2_chosenFor : MethodName := ⟨RX2, "chosenFor", "(I)I"⟩
abbrev cX2_prepareSearch : ByteArray := prog_1_method_30_code
def yX2_prepareSearch : MethodName := ⟨RX2, "prepareSearch", "(I)V"⟩
def RX3 : String := "ShedwheelModel"
def TX3 : u_T := fun k => match k with
  | _ => ("", "", "", false)
def tyX3 : Nat → FieldType := fun k => match k with
  | _ => .int
abbrev wsX30 : List Cond := u_ws RX3 TX3 0
theorem nmX3 : ∀ a, a < 0 → ∀ b, b < 0 → a ≠ b → (TX3 a).2.1 ≠ (TX3 b).2.1 := by decide +kernel
theorem tyX3_ok : ∀ k, k < 0 → parseFieldDescriptor (TX3 k).2.2.1 = some (tyX3 k) := by decide +kernel
def RJx145de : String := "java/io/Serializable"
def TJx145de : u_T := fun k => match k with
  | _ => ("", "", "", false)
def tyJx145de : Nat → FieldType := fun k => match k with
  | _ => .int
abbrev wsJx145de0 : List Cond := u_ws RJx145de TJx145de 0
theorem nmJx145de : ∀ a, a < 0 → ∀ b, b < 0 → a ≠ b → (TJx145de a).2.1 ≠ (TJx145de b).2.1 := by decide +kernel
theorem tyJx145de_ok : ∀ k, k < 0 → parseFieldDescriptor (TJx145de k).2.2.1 = some (tyJx145de k) := by decide +kernel
def RJx8e188 : String := "java/lang/Cloneable"
def TJx8e188 : u_T := fun k => match k with
  | _ => ("", "", "", false)
def tyJx8e188 : Nat → FieldType := fun k => match k with
  | _ => .int
abbrev wsJx8e1880 : List Cond := u_ws RJx8e188 TJx8e188 0
theorem nmJx8e188 : ∀ a, a < 0 → ∀ b, b < 0 → a ≠ b → (TJx8e188 a).2.1 ≠ (TJx8e188 b).2.1 := by decide +kernel
theorem tyJx8e188_ok : ∀ k, k < 0 → parseFieldDescriptor (TJx8e188 k).2.2.1 = some (tyJx8e188 k) := by decide +kernel
def RJxab1ab : String := "java/lang/Iterable"
def TJxab1ab : u_T := fun k => match k with
  | _ => ("", "", "", false)
def tyJxab1ab : Nat → FieldType := fun k => match k with
  | _ => .int
abbrev wsJxab1ab0 : List Cond := u_ws RJxab1ab TJxab1ab 0
theorem nmJxab1ab : ∀ a, a < 0 → ∀ b, b < 0 → a ≠ b → (TJxab1ab a).2.1 ≠ (TJxab1ab b).2.1 := by decide +kernel
theorem tyJxab1ab_ok : ∀ k, k < 0 → parseFieldDescriptor (TJxab1ab k).2.2.1 = some (tyJxab1ab k) := by decide +kernel
def RJ9 : String := "java/lang/Math"
def TJ9 : u_T := fun k => match k with
  | _ => ("", "", "", false)
def tyJ9 : Nat → FieldType := fun k => match k with
  | _ => .int
abbrev wsJ90 : List Cond := u_ws RJ9 TJ9 0
theorem nmJ9 : ∀ a, a < 0 → ∀ b, b < 0 → a ≠ b → (TJ9 a).2.1 ≠ (TJ9 b).2.1 := by decide +kernel
theorem tyJ9_ok : ∀ k, k < 0 → parseFieldDescriptor (TJ9 k).2.2.1 = some (tyJ9 k) := by decide +kernel
abbrev cJ9_max_7cf53 : ByteArray := prog_13_method_65_code
def yJ9_max_7cf53 : MethodName := ⟨RJ9, "max", "(II)I"⟩
abbrev cJ9_min_7cf53 : ByteArray := prog_13_method_69_code
def yJ9_min_7cf53 : MethodName := ⟨RJ9, "min", "(II)I"⟩
def RJ0 : String := "java/lang/String"
def TJ0 : u_T := fun k => match k with
  | _ => ("", "", "", false)
def tyJ0 : Nat → FieldType := fun k => match k with
  | _ => .int
abbrev wsJ00 : List Cond := u_ws RJ0 TJ0 0
theorem nmJ0 : ∀ a, a < 0 → ∀ b, b < 0 → a ≠ b → (TJ0 a).2.1 ≠ (TJ0 b).2.1 := by decide +kernel
theorem tyJ0_ok : ∀ k, k < 0 → parseFieldDescriptor (TJ0 k).2.2.1 = some (tyJ0 k) := by decide +kernel
def RJ10 : String := "java/lang/System"
def TJ10 : u_T := fun k => match k with
  | _ => ("", "", "", false)
def tyJ10 : Nat → FieldType := fun k => match k with
  | _ => .int
abbrev wsJ100 : List Cond := u_ws RJ10 TJ10 0
theorem nmJ10 : ∀ a, a < 0 → ∀ b, b < 0 → a ≠ b → (TJ10 a).2.1 ≠ (TJ10 b).2.1 := by decide +kernel
theorem tyJ10_ok : ∀ k, k < 0 → parseFieldDescriptor (TJ10 k).2.2.1 = some (tyJ10 k) := by decide +kernel
def RJxa1e45 : String := "java/util/AbstractCollection"
def TJxa1e45 : u_T := fun k => match k with
  | _ => ("", "", "", false)
def tyJxa1e45 : Nat → FieldType := fun k => match k with
  | _ => .int
abbrev wsJxa1e450 : List Cond := u_ws RJxa1e45 TJxa1e45 0
theorem nmJxa1e45 : ∀ a, a < 0 → ∀ b, b < 0 → a ≠ b → (TJxa1e45 a).2.1 ≠ (TJxa1e45 b).2.1 := by decide +kernel
theorem tyJxa1e45_ok : ∀ k, k < 0 → parseFieldDescriptor (TJxa1e45 k).2.2.1 = some (tyJxa1e45 k) := by decide +kernel
abbrev cJxa1e45_init_da8c8 : ByteArray := prog_18_method_1_code
def yJxa1e45_init_da8c8 : MethodName := ⟨RJxa1e45, "<init>", "()V"⟩
def RJxc12de : String := "java/util/AbstractList"
def TJxc12de : u_T := fun k => match k with
  | _ => ("", "", "", false)
def tyJxc12de : Nat → FieldType := fun k => match k with
  | _ => .int
abbrev wsJxc12de0 : List Cond := u_ws RJxc12de TJxc12de 0
theorem nmJxc12de : ∀ a, a < 0 → ∀ b, b < 0 → a ≠ b → (TJxc12de a).2.1 ≠ (TJxc12de b).2.1 := by decide +kernel
theorem tyJxc12de_ok : ∀ k, k < 0 → parseFieldDescriptor (TJxc12de k).2.2.1 = some (tyJxc12de k) := by decide +kernel
abbrev cJxc12de_init_da8c8 : ByteArray := prog_19_method_1_code
def yJxc12de_init_da8c8 : MethodName := ⟨RJxc12de, "<init>", "()V"⟩
def RJx4a65c : String := "java/util/ArrayList"
def TJx4a65c : u_T := fun k => match k with
  | 0 => ("java/util/AbstractList", "modCount", "I", false)
  | 1 => ("java/util/ArrayList", "elementData", "[Ljava/lang/Object;", false)
  | _ => ("java/util/ArrayList", "size", "I", false)
def tyJx4a65c : Nat → FieldType := fun k => match k with
  | 0 => .int
  | 1 => .array (.object "java/lang/Object")
  | _ => .int
abbrev wsJx4a65c0 : List Cond := u_ws RJx4a65c TJx4a65c 3
theorem nmJx4a65c : ∀ a, a < 3 → ∀ b, b < 3 → a ≠ b → (TJx4a65c a).2.1 ≠ (TJx4a65c b).2.1 := by decide +kernel
theorem tyJx4a65c_ok : ∀ k, k < 3 → parseFieldDescriptor (TJx4a65c k).2.2.1 = some (tyJx4a65c k) := by decide +kernel
abbrev cJx4a65c_init_da8c8 : ByteArray := prog_20_method_2_code
def yJx4a65c_init_da8c8 : MethodName := ⟨RJx4a65c, "<init>", "()V"⟩
abbrev cJx4a65c_grow_92f84 : ByteArray := prog_20_method_6_code
def yJx4a65c_grow_92f84 : MethodName := ⟨RJx4a65c, "grow", "(I)[Ljava/lang/Object;"⟩
abbrev cJx4a65c_grow_d5877 : ByteArray := prog_20_method_7_code
def yJx4a65c_grow_d5877 : MethodName := ⟨RJx4a65c, "grow", "()[Ljava/lang/Object;"⟩
abbrev cJx4a65c_size_8abf5 : ByteArray := prog_20_method_8_code
def yJx4a65c_size_8abf5 : MethodName := ⟨RJx4a65c, "size", "()I"⟩
abbrev cJx4a65c_elementData_915e3 : ByteArray := prog_20_method_18_code
def yJx4a65c_elementData_915e3 : MethodName := ⟨RJx4a65c, "elementData", "(I)Ljava/lang/Object;"⟩
abbrev cJx4a65c_get_915e3 : ByteArray := prog_20_method_20_code
def yJx4a65c_get_915e3 : MethodName := ⟨RJx4a65c, "get", "(I)Ljava/lang/Object;"⟩
abbrev cJx4a65c_add_72be8 : ByteArray := prog_20_method_24_code
def yJx4a65c_add_72be8 : MethodName := ⟨RJx4a65c, "add", "(Ljava/lang/Object;[Ljava/lang/Object;I)V"⟩
abbrev cJx4a65c_add_9ea2d : ByteArray := prog_20_method_25_code
def yJx4a65c_add_9ea2d : MethodName := ⟨RJx4a65c, "add", "(Ljava/lang/Object;)Z"⟩
def RJ7 : String := "java/util/Arrays"
def TJ7 : u_T := fun k => match k with
  | _ => ("", "", "", false)
def tyJ7 : Nat → FieldType := fun k => match k with
  | _ => .int
abbrev wsJ70 : List Cond := u_ws RJ7 TJ7 0
theorem nmJ7 : ∀ a, a < 0 → ∀ b, b < 0 → a ≠ b → (TJ7 a).2.1 ≠ (TJ7 b).2.1 := by decide +kernel
theorem tyJ7_ok : ∀ k, k < 0 → parseFieldDescriptor (TJ7 k).2.2.1 = some (tyJ7 k) := by decide +kernel
abbrev cJ7_copyOf_1904c : ByteArray := prog_21_method_119_code
def yJ7_copyOf_1904c : MethodName := ⟨RJ7, "copyOf", "([Ljava/lang/Object;I)[Ljava/lang/Object;"⟩
abbrev cJ7_copyOf_6403c : ByteArray := prog_21_method_120_code
def yJ7_copyOf_6403c : MethodName := ⟨RJ7, "copyOf", "([Ljava/lang/Object;ILjava/lang/Class;)[Ljava/lang/Object;"⟩
def RJx5ef63 : String := "java/util/Collection"
def TJx5ef63 : u_T := fun k => match k with
  | _ => ("", "", "", false)
def tyJx5ef63 : Nat → FieldType := fun k => match k with
  | _ => .int
abbrev wsJx5ef630 : List Cond := u_ws RJx5ef63 TJx5ef63 0
theorem nmJx5ef63 : ∀ a, a < 0 → ∀ b, b < 0 → a ≠ b → (TJx5ef63 a).2.1 ≠ (TJx5ef63 b).2.1 := by decide +kernel
theorem tyJx5ef63_ok : ∀ k, k < 0 → parseFieldDescriptor (TJx5ef63 k).2.2.1 = some (tyJx5ef63 k) := by decide +kernel
def RJxbd725 : String := "java/util/List"
def TJxbd725 : u_T := fun k => match k with
  | _ => ("", "", "", false)
def tyJxbd725 : Nat → FieldType := fun k => match k with
  | _ => .int
abbrev wsJxbd7250 : List Cond := u_ws RJxbd725 TJxbd725 0
theorem nmJxbd725 : ∀ a, a < 0 → ∀ b, b < 0 → a ≠ b → (TJxbd725 a).2.1 ≠ (TJxbd725 b).2.1 := by decide +kernel
theorem tyJxbd725_ok : ∀ k, k < 0 → parseFieldDescriptor (TJxbd725 k).2.2.1 = some (tyJxbd725 k) := by decide +kernel
def RJ15 : String := "java/util/Objects"
def TJ15 : u_T := fun k => match k with
  | _ => ("", "", "", false)
def tyJ15 : Nat → FieldType := fun k => match k with
  | _ => .int
abbrev wsJ150 : List Cond := u_ws RJ15 TJ15 0
theorem nmJ15 : ∀ a, a < 0 → ∀ b, b < 0 → a ≠ b → (TJ15 a).2.1 ≠ (TJ15 b).2.1 := by decide +kernel
theorem tyJ15_ok : ∀ k, k < 0 → parseFieldDescriptor (TJ15 k).2.2.1 = some (tyJ15 k) := by decide +kernel
abbrev cJ15_checkIndex_7cf53 : ByteArray := prog_25_method_17_code
def yJ15_checkIndex_7cf53 : MethodName := ⟨RJ15, "checkIndex", "(II)I"⟩
def RJxf0a74 : String := "java/util/RandomAccess"
def TJxf0a74 : u_T := fun k => match k with
  | _ => ("", "", "", false)
def tyJxf0a74 : Nat → FieldType := fun k => match k with
  | _ => .int
abbrev wsJxf0a740 : List Cond := u_ws RJxf0a74 TJxf0a74 0
theorem nmJxf0a74 : ∀ a, a < 0 → ∀ b, b < 0 → a ≠ b → (TJxf0a74 a).2.1 ≠ (TJxf0a74 b).2.1 := by decide +kernel
theorem tyJxf0a74_ok : ∀ k, k < 0 → parseFieldDescriptor (TJxf0a74 k).2.2.1 = some (tyJxf0a74 k) := by decide +kernel
def RJxa66e6 : String := "java/util/SequencedCollection"
def TJxa66e6 : u_T := fun k => match k with
  | _ => ("", "", "", false)
def tyJxa66e6 : Nat → FieldType := fun k => match k with
  | _ => .int
abbrev wsJxa66e60 : List Cond := u_ws RJxa66e6 TJxa66e6 0
theorem nmJxa66e6 : ∀ a, a < 0 → ∀ b, b < 0 → a ≠ b → (TJxa66e6 a).2.1 ≠ (TJxa66e6 b).2.1 := by decide +kernel
theorem tyJxa66e6_ok : ∀ k, k < 0 → parseFieldDescriptor (TJxa66e6 k).2.2.1 = some (tyJxa66e6 k) := by decide +kernel
def RJ8 : String := "jdk/internal/util/ArraysSupport"
def TJ8 : u_T := fun k => match k with
  | _ => ("", "", "", false)
def tyJ8 : Nat → FieldType := fun k => match k with
  | _ => .int
abbrev wsJ80 : List Cond := u_ws RJ8 TJ8 0
theorem nmJ8 : ∀ a, a < 0 → ∀ b, b < 0 → a ≠ b → (TJ8 a).2.1 ≠ (TJ8 b).2.1 := by decide +kernel
theorem tyJ8_ok : ∀ k, k < 0 → parseFieldDescriptor (TJ8 k).2.2.1 = some (tyJ8 k) := by decide +kernel
abbrev cJ8_newLength_cabcc : ByteArray := prog_28_method_27_code
def yJ8_newLength_cabcc : MethodName := ⟨RJ8, "newLength", "(III)I"⟩
abbrev cJ8_hugeLength_7cf53 : ByteArray := prog_28_method_28_code
def yJ8_hugeLength_7cf53 : MethodName := ⟨RJ8, "hugeLength", "(II)I"⟩
def RJ3 : String := "jdk/internal/util/Preconditions"
def TJ3 : u_T := fun k => match k with
  | _ => ("", "", "", false)
def tyJ3 : Nat → FieldType := fun k => match k with
  | _ => .int
abbrev wsJ30 : List Cond := u_ws RJ3 TJ3 0
theorem nmJ3 : ∀ a, a < 0 → ∀ b, b < 0 → a ≠ b → (TJ3 a).2.1 ≠ (TJ3 b).2.1 := by decide +kernel
theorem tyJ3_ok : ∀ k, k < 0 → parseFieldDescriptor (TJ3 k).2.2.1 = some (tyJ3 k) := by decide +kernel
abbrev cJ3_checkIndex_8e157 : ByteArray := prog_29_method_11_code
def yJ3_checkIndex_8e157 : MethodName := ⟨RJ3, "checkIndex", "(IILjava/util/function/BiFunction;)I"⟩
def RL : String := "ShedwheelLaw"
abbrev cL_cell : ByteArray := method_2_code
def yL_cell : MethodName := ⟨RL, "cell", "([II)I"⟩
abbrev cL_at : ByteArray := method_3_code
def yL_at : MethodName := ⟨RL, "at", "(II)I"⟩
abbrev cL_out : ByteArray := method_4_code
def yL_out : MethodName := ⟨RL, "out", "(LShedwheel;)I"⟩
abbrev cL_taken : ByteArray := method_5_code
def yL_taken : MethodName := ⟨RL, "taken", "(LShedwheel;I)I"⟩
abbrev cL_relieves : ByteArray := method_6_code
def yL_relieves : MethodName := ⟨RL, "relieves", "(LShedwheel;II)Z"⟩
abbrev cL_turns : ByteArray := method_7_code
def yL_turns : MethodName := ⟨RL, "turns", "(LShedwheel;I)Z"⟩
abbrev cL_passes : ByteArray := method_8_code
def yL_passes : MethodName := ⟨RL, "passes", "(LShedwheel;I)Z"⟩
abbrev cL_noneCold : ByteArray := method_9_code
def yL_noneCold : MethodName := ⟨RL, "noneCold", "(LShedwheel;)Z"⟩
abbrev cL_law : ByteArray := code
def yL_law : MethodName := ⟨RL, "law", "([I)Z"⟩
def wsX0_init : List Cond := .code yX0_init cX0_init 4 none :: ([.methodLink RX0 3 objectInit, .instanceMethod objectInit, .code objectInit ⟨#[0xb1]⟩ 1 none, .fieldLink RX0 9 "Shedwheel$Feeder" "off" "Z", .fieldLink RX0 15 "Shedwheel$Feeder" "hoursOff" "I", .fieldLink RX0 19 "Shedwheel$Feeder" "hoursOfThisCut" "I", .fieldLink RX0 22 "Shedwheel$Feeder" "coldPart" "I", .fieldLink RX0 25 "Shedwheel$Feeder" "megawatts" "I", .fieldLink RX0 28 "Shedwheel$Feeder" "critical" "Z", .fieldLink RX0 31 "Shedwheel$Feeder" "stage" "I"] ++ wsX00)
def wsX0_mayBeCut : List Cond := .code yX0_mayBeCut cX0_mayBeCut 1 (some .boolean) :: ([.fieldLink RX0 9 "Shedwheel$Feeder" "off" "Z", .fieldLink RX0 28 "Shedwheel$Feeder" "critical" "Z"] ++ wsX00)
def wsX0_mayReturn : List Cond := .code yX0_mayReturn cX0_mayReturn 1 (some .boolean) :: ([.fieldLink RX0 9 "Shedwheel$Feeder" "off" "Z", .fieldLink RX0 28 "Shedwheel$Feeder" "critical" "Z"] ++ wsX00)
def wsX0_withCold : List Cond := .code yX0_withCold cX0_withCold 2 (some .int) :: ([.fieldLink RX0 25 "Shedwheel$Feeder" "megawatts" "I"] ++ wsX00)
def wsX0_taken : List Cond := .code yX0_taken cX0_taken 1 (some .int) :: ([.fieldLink RX0 9 "Shedwheel$Feeder" "off" "Z", .fieldLink RX0 22 "Shedwheel$Feeder" "coldPart" "I", .methodLink RX0 34 yX0_withCold, .instanceMethod yX0_withCold, .selects RX0 yX0_withCold yX0_withCold, .initialized RX0, .code yX0_withCold cX0_withCold 2 (some .int), .fieldLink RX0 25 "Shedwheel$Feeder" "megawatts" "I"] ++ wsX00)
def wsX0_coldOnReturn : List Cond := .code yX0_coldOnReturn cX0_coldOnReturn 1 (some .int) :: ([.fieldLink RX0 19 "Shedwheel$Feeder" "hoursOfThisCut" "I", .methodLink RX0 45 Lib.Math.min.name, .static Lib.Math.min.name, .initialized "java/lang/Math", .code Lib.Math.min.name Lib.Math.min.code 2 (some .int)] ++ wsX00)
def wsX0_takenIfRestored : List Cond := .code yX0_takenIfRestored cX0_takenIfRestored 1 (some .int) :: ([.fieldLink RX0 9 "Shedwheel$Feeder" "off" "Z", .methodLink RX0 38 yX0_coldOnReturn, .instanceMethod yX0_coldOnReturn, .selects RX0 yX0_coldOnReturn yX0_coldOnReturn, .initialized RX0, .code yX0_coldOnReturn cX0_coldOnReturn 1 (some .int), .fieldLink RX0 19 "Shedwheel$Feeder" "hoursOfThisCut" "I", .methodLink RX0 45 Lib.Math.min.name, .static Lib.Math.min.name, .initialized "java/lang/Math", .code Lib.Math.min.name Lib.Math.min.code 2 (some .int), .methodLink RX0 34 yX0_withCold, .instanceMethod yX0_withCold, .selects RX0 yX0_withCold yX0_withCold, .code yX0_withCold cX0_withCold 2 (some .int), .fieldLink RX0 25 "Shedwheel$Feeder" "megawatts" "I", .methodLink RX0 42 yX0_taken, .instanceMethod yX0_taken, .selects RX0 yX0_taken yX0_taken, .code yX0_taken cX0_taken 1 (some .int), .fieldLink RX0 22 "Shedwheel$Feeder" "coldPart" "I"] ++ wsX00)
def wsX0_switchOff : List Cond := .code yX0_switchOff cX0_switchOff 2 (some .int) :: ([.fieldLink RX0 9 "Shedwheel$Feeder" "off" "Z", .fieldLink RX0 19 "Shedwheel$Feeder" "hoursOfThisCut" "I", .fieldLink RX0 22 "Shedwheel$Feeder" "coldPart" "I", .methodLink RX0 42 yX0_taken, .instanceMethod yX0_taken, .selects RX0 yX0_taken yX0_taken, .initialized RX0, .code yX0_taken cX0_taken 1 (some .int), .methodLink RX0 34 yX0_withCold, .instanceMethod yX0_withCold, .selects RX0 yX0_withCold yX0_withCold, .code yX0_withCold cX0_withCold 2 (some .int), .fieldLink RX0 25 "Shedwheel$Feeder" "megawatts" "I"] ++ wsX00)
def wsX0_switchOn : List Cond := .code yX0_switchOn cX0_switchOn 1 none :: ([.fieldLink RX0 22 "Shedwheel$Feeder" "coldPart" "I", .fieldLink RX0 9 "Shedwheel$Feeder" "off" "Z", .methodLink RX0 38 yX0_coldOnReturn, .instanceMethod yX0_coldOnReturn, .selects RX0 yX0_coldOnReturn yX0_coldOnReturn, .initialized RX0, .code yX0_coldOnReturn cX0_coldOnReturn 1 (some .int), .fieldLink RX0 19 "Shedwheel$Feeder" "hoursOfThisCut" "I", .methodLink RX0 45 Lib.Math.min.name, .static Lib.Math.min.name, .initialized "java/lang/Math", .code Lib.Math.min.name Lib.Math.min.code 2 (some .int)] ++ wsX00)
def wsX0_letPass : List Cond := .code yX0_letPass cX0_letPass 2 none :: ([.fieldLink RX0 9 "Shedwheel$Feeder" "off" "Z", .fieldLink RX0 15 "Shedwheel$Feeder" "hoursOff" "I", .fieldLink RX0 19 "Shedwheel$Feeder" "hoursOfThisCut" "I", .fieldLink RX0 22 "Shedwheel$Feeder" "coldPart" "I", .methodLink RX0 51 Lib.Math.max.name, .static Lib.Math.max.name, .initialized "java/lang/Math", .code Lib.Math.max.name Lib.Math.max.code 2 (some .int)] ++ wsX00)
def wsX1_init : List Cond := .code yX1_init cX1_init 1 none :: ([.methodLink RX1 3 objectInit, .instanceMethod objectInit, .code objectInit ⟨#[0xb1]⟩ 1 none, .arrayClass .int, .fieldLink RX1 9 "Shedwheel$Search" "bits" "[I", .fieldLink RX1 15 "Shedwheel$Search" "takenBy" "[I", .fieldLink RX1 18 "Shedwheel$Search" "hoursOf" "[I", .fieldLink RX1 21 "Shedwheel$Search" "takenBelow" "[I", .fieldLink RX1 24 "Shedwheel$Search" "count" "I", .fieldLink RX1 28 "Shedwheel$Search" "shortfall" "I", .fieldLink RX1 31 "Shedwheel$Search" "nearLimit" "I", .fieldLink RX1 34 "Shedwheel$Search" "bestSet" "I", .fieldLink RX1 37 "Shedwheel$Search" "bestTaken" "I", .fieldLink RX1 40 "Shedwheel$Search" "bestHours" "I"] ++ wsX10)
def wsX1_begin : List Cond := .code yX1_begin cX1_begin 3 none :: ([.fieldLink RX1 28 "Shedwheel$Search" "shortfall" "I", .fieldLink RX1 31 "Shedwheel$Search" "nearLimit" "I", .fieldLink RX1 24 "Shedwheel$Search" "count" "I", .fieldLink RX1 34 "Shedwheel$Search" "bestSet" "I"] ++ wsX10)
def wsX1_offer : List Cond := .code yX1_offer cX1_offer 4 none :: ([.fieldLink RX1 24 "Shedwheel$Search" "count" "I", .fieldLink RX1 9 "Shedwheel$Search" "bits" "[I", .fieldLink RX1 15 "Shedwheel$Search" "takenBy" "[I", .fieldLink RX1 18 "Shedwheel$Search" "hoursOf" "[I", .fieldLink RX1 21 "Shedwheel$Search" "takenBelow" "[I"] ++ wsX10)
def wsX1_isBetter : List Cond := .code yX1_isBetter cX1_isBetter 5 (some .boolean) :: ([.fieldLink RX1 31 "Shedwheel$Search" "nearLimit" "I", .fieldLink RX1 37 "Shedwheel$Search" "bestTaken" "I", .fieldLink RX1 40 "Shedwheel$Search" "bestHours" "I", .fieldLink RX1 34 "Shedwheel$Search" "bestSet" "I"] ++ wsX10)
def wsX1_weigh : List Cond := .code yX1_weigh cX1_weigh 4 none :: ([.fieldLink RX1 34 "Shedwheel$Search" "bestSet" "I", .fieldLink RX1 37 "Shedwheel$Search" "bestTaken" "I", .fieldLink RX1 40 "Shedwheel$Search" "bestHours" "I", .methodLink RX1 59 yX1_isBetter, .instanceMethod yX1_isBetter, .selects RX1 yX1_isBetter yX1_isBetter, .initialized RX1, .code yX1_isBetter cX1_isBetter 5 (some .boolean), .fieldLink RX1 31 "Shedwheel$Search" "nearLimit" "I"] ++ wsX10)
def wsX1_walk : List Cond := .code yX1_walk cX1_walk 6 none :: ([.fieldLink RX1 28 "Shedwheel$Search" "shortfall" "I", .fieldLink RX1 21 "Shedwheel$Search" "takenBelow" "[I", .fieldLink RX1 9 "Shedwheel$Search" "bits" "[I", .fieldLink RX1 15 "Shedwheel$Search" "takenBy" "[I", .fieldLink RX1 18 "Shedwheel$Search" "hoursOf" "[I", .methodLink RX1 47 yX1_weigh, .instanceMethod yX1_weigh, .selects RX1 yX1_weigh yX1_weigh, .initialized RX1, .code yX1_weigh cX1_weigh 4 none, .fieldLink RX1 34 "Shedwheel$Search" "bestSet" "I", .fieldLink RX1 37 "Shedwheel$Search" "bestTaken" "I", .fieldLink RX1 40 "Shedwheel$Search" "bestHours" "I", .methodLink RX1 59 yX1_isBetter, .instanceMethod yX1_isBetter, .selects RX1 yX1_isBetter yX1_isBetter, .code yX1_isBetter cX1_isBetter 5 (some .boolean), .fieldLink RX1 31 "Shedwheel$Search" "nearLimit" "I", .methodLink RX1 43 yX1_walk, .static yX1_walk] ++ wsX10)
def wsX1_bestByWalking : List Cond := .code yX1_bestByWalking cX1_bestByWalking 1 (some .int) :: ([.fieldLink RX1 24 "Shedwheel$Search" "count" "I", .fieldLink RX1 34 "Shedwheel$Search" "bestSet" "I", .methodLink RX1 43 yX1_walk, .static yX1_walk, .initialized RX1, .code yX1_walk cX1_walk 6 none, .fieldLink RX1 28 "Shedwheel$Search" "shortfall" "I", .fieldLink RX1 21 "Shedwheel$Search" "takenBelow" "[I", .fieldLink RX1 9 "Shedwheel$Search" "bits" "[I", .fieldLink RX1 15 "Shedwheel$Search" "takenBy" "[I", .fieldLink RX1 18 "Shedwheel$Search" "hoursOf" "[I", .methodLink RX1 47 yX1_weigh, .instanceMethod yX1_weigh, .selects RX1 yX1_weigh yX1_weigh, .code yX1_weigh cX1_weigh 4 none, .fieldLink RX1 37 "Shedwheel$Search" "bestTaken" "I", .fieldLink RX1 40 "Shedwheel$Search" "bestHours" "I", .methodLink RX1 59 yX1_isBetter, .instanceMethod yX1_isBetter, .selects RX1 yX1_isBetter yX1_isBetter, .code yX1_isBetter cX1_isBetter 5 (some .boolean), .fieldLink RX1 31 "Shedwheel$Search" "nearLimit" "I"] ++ wsX10)
def wsJxa1e45_init_da8c8 : List Cond := .code yJxa1e45_init_da8c8 cJxa1e45_init_da8c8 1 none :: ([.methodLink RJxa1e45 1 objectInit, .instanceMethod objectInit, .code objectInit ⟨#[0xb1]⟩ 1 none])
def wsJxc12de_init_da8c8 : List Cond := .code yJxc12de_init_da8c8 cJxc12de_init_da8c8 1 none :: ([.fieldLink RJxc12de 7 "java/util/AbstractList" "modCount" "I", .methodLink RJxc12de 1 yJxa1e45_init_da8c8, .instanceMethod yJxa1e45_init_da8c8, .initialized RJxa1e45, .code yJxa1e45_init_da8c8 cJxa1e45_init_da8c8 1 none, .methodLink RJxa1e45 1 objectInit, .instanceMethod objectInit, .code objectInit ⟨#[0xb1]⟩ 1 none] ++ wsJx4a65c0)
def wsJx4a65c_init_da8c8 : List Cond := .code yJx4a65c_init_da8c8 cJx4a65c_init_da8c8 1 none :: ([.fieldLink RJx4a65c 39 "java/util/ArrayList" "DEFAULTCAPACITY_EMPTY_ELEMENTDATA" "[Ljava/lang/Object;", .fieldLink RJx4a65c 9 "java/util/ArrayList" "elementData" "[Ljava/lang/Object;", .methodLink RJx4a65c 1 yJxc12de_init_da8c8, .instanceMethod yJxc12de_init_da8c8, .initialized RJxc12de, .code yJxc12de_init_da8c8 cJxc12de_init_da8c8 1 none, .fieldLink RJxc12de 7 "java/util/AbstractList" "modCount" "I", .methodLink RJxc12de 1 yJxa1e45_init_da8c8, .instanceMethod yJxa1e45_init_da8c8, .initialized RJxa1e45, .code yJxa1e45_init_da8c8 cJxa1e45_init_da8c8 1 none, .methodLink RJxa1e45 1 objectInit, .instanceMethod objectInit, .code objectInit ⟨#[0xb1]⟩ 1 none] ++ wsJx4a65c0)
def wsX2_init_r1 : List Cond := [Cond.methodLink RX2 1 objectInit, Cond.instanceMethod objectInit, Cond.code objectInit ⟨#[0xb1]⟩ 1 none, Cond.classLink RX2 7 RJx4a65c, Cond.instantiable RJx4a65c 3, Cond.initialized RJx4a65c, Cond.fieldLink RX2 10 "Shedwheel" "told" "Ljava/util/ArrayList;", Cond.classLink RX2 16 RX1, Cond.instantiable RX1 10, Cond.initialized RX1, Cond.fieldLink RX2 19 "Shedwheel" "search" "LShedwheel$Search;", Cond.fieldLink RX2 23 "Shedwheel" "now" "I", Cond.fieldLink RX2 27 "Shedwheel" "slackNow" "I", Cond.methodLink RX2 9 yJx4a65c_init_da8c8, Cond.instanceMethod yJx4a65c_init_da8c8, Cond.code yJx4a65c_init_da8c8 cJx4a65c_init_da8c8 1 none, Cond.fieldLink RJx4a65c 39 "java/util/ArrayList" "DEFAULTCAPACITY_EMPTY_ELEMENTDATA" "[Ljava/lang/Object;", Cond.fieldLink RJx4a65c 9 "java/util/ArrayList" "elementData" "[Ljava/lang/Object;", Cond.methodLink RJx4a65c 1 yJxc12de_init_da8c8, Cond.instanceMethod yJxc12de_init_da8c8, Cond.initialized RJxc12de, Cond.code yJxc12de_init_da8c8 cJxc12de_init_da8c8 1 none, Cond.fieldLink RJxc12de 7 "java/util/AbstractList" "modCount" "I", Cond.methodLink RJxc12de 1 yJxa1e45_init_da8c8]
def wsX2_init_r2 : List Cond := [Cond.instanceMethod yJxa1e45_init_da8c8, Cond.initialized RJxa1e45, Cond.code yJxa1e45_init_da8c8 cJxa1e45_init_da8c8 1 none, Cond.methodLink RJxa1e45 1 objectInit, Cond.instanceMethod yX1_init, Cond.code yX1_init cX1_init 1 none, Cond.methodLink RX1 3 objectInit, Cond.arrayClass .int, Cond.fieldLink RX1 9 "Shedwheel$Search" "bits" "[I", Cond.fieldLink RX1 15 "Shedwheel$Search" "takenBy" "[I", Cond.fieldLink RX1 18 "Shedwheel$Search" "hoursOf" "[I", Cond.fieldLink RX1 21 "Shedwheel$Search" "takenBelow" "[I", Cond.fieldLink RX1 24 "Shedwheel$Search" "count" "I", Cond.fieldLink RX1 28 "Shedwheel$Search" "shortfall" "I", Cond.fieldLink RX1 31 "Shedwheel$Search" "nearLimit" "I", Cond.fieldLink RX1 34 "Shedwheel$Search" "bestSet" "I", Cond.fieldLink RX1 37 "Shedwheel$Search" "bestTaken" "I", Cond.fieldLink RX1 40 "Shedwheel$Search" "bestHours" "I"]
def wsX2_init : List Cond := .code yX2_init cX2_init 1 none :: ((wsX2_init_r1 ++ wsX2_init_r2) ++ wsJx4a65c0 ++ wsX20 ++ wsX10)
def wsX2_requireWithin : List Cond := .code yX2_requireWithin cX2_requireWithin 3 none :: ([.classLink RX2 146 "java/lang/IllegalArgumentException", .initialized "java/lang/IllegalArgumentException"] ++ (vx_atS RX2 150 "java/lang/IllegalArgumentException" ["java/lang/RuntimeException", "java/lang/Exception"]).filter goodWord)
def wsJx4a65c_size_8abf5 : List Cond := .code yJx4a65c_size_8abf5 cJx4a65c_size_8abf5 1 (some .int) :: ([.fieldLink RJx4a65c 48 "java/util/ArrayList" "size" "I"] ++ wsJx4a65c0)
def wsJ8_hugeLength_7cf53 : List Cond := .code yJ8_hugeLength_7cf53 cJ8_hugeLength_7cf53 3 (some .int) :: ([.constant RJ8 200 (2147483639)])
def wsJ8_newLength_cabcc : List Cond := .code yJ8_newLength_cabcc cJ8_newLength_cabcc 4 (some .int) :: ([.methodLink RJ8 194 Lib.Math.max.name, .static Lib.Math.max.name, .initialized "java/lang/Math", .code Lib.Math.max.name Lib.Math.max.code 2 (some .int), .constant RJ8 200 (2147483639), .methodLink RJ8 201 yJ8_hugeLength_7cf53, .static yJ8_hugeLength_7cf53, .initialized RJ8, .code yJ8_hugeLength_7cf53 cJ8_hugeLength_7cf53 3 (some .int)])
def wsJ7_copyOf_6403c : List Cond := .code yJ7_copyOf_6403c cJ7_copyOf_6403c 4 (some (.array (.object "java/lang/Object"))) :: ([.classLink RJ7 110 "[Ljava/lang/Object;", .classLink RJ7 2 "java/lang/Object", .methodLink RJ7 304 Lib.Math.min.name, .static Lib.Math.min.name, .initialized "java/lang/Math", .code Lib.Math.min.name Lib.Math.min.code 2 (some .int), .methodLink RJ7 150 arraycopyName, .native arraycopyName, .static arraycopyName, .initialized "java/lang/System"])
def wsJ7_copyOf_1904c : List Cond := .code yJ7_copyOf_1904c cJ7_copyOf_1904c 2 (some (.array (.object "java/lang/Object"))) :: ([.methodLink RJ7 86 ⟨"java/lang/Object", "getClass", "()Ljava/lang/Class;"⟩, .selects "[Ljava/lang/Object;" ⟨"java/lang/Object", "getClass", "()Ljava/lang/Class;"⟩ ⟨"java/lang/Object", "getClass", "()Ljava/lang/Class;"⟩, .instanceMethod ⟨"java/lang/Object", "getClass", "()Ljava/lang/Class;"⟩, .native ⟨"java/lang/Object", "getClass", "()Ljava/lang/Class;"⟩, .methodLink RJ7 300 yJ7_copyOf_6403c, .static yJ7_copyOf_6403c, .initialized RJ7, .code yJ7_copyOf_6403c cJ7_copyOf_6403c 4 (some (.array (.object "java/lang/Object"))), .classLink RJ7 110 "[Ljava/lang/Object;", .classLink RJ7 2 "java/lang/Object", .methodLink RJ7 304 Lib.Math.min.name, .static Lib.Math.min.name, .initialized "java/lang/Math", .code Lib.Math.min.name Lib.Math.min.code 2 (some .int), .methodLink RJ7 150 arraycopyName, .native arraycopyName, .static arraycopyName, .initialized "java/lang/System"])
def wsJx4a65c_grow_92f84_r1 : List Cond := [Cond.fieldLink RJx4a65c 9 "java/util/ArrayList" "elementData" "[Ljava/lang/Object;", Cond.fieldLink RJx4a65c 39 "java/util/ArrayList" "DEFAULTCAPACITY_EMPTY_ELEMENTDATA" "[Ljava/lang/Object;", Cond.methodLink RJx4a65c 79 Lib.Math.max.name, Cond.static Lib.Math.max.name, Cond.initialized "java/lang/Math", Cond.code Lib.Math.max.name Lib.Math.max.code 2 (some .int), Cond.classLink RJx4a65c 7 "java/lang/Object", Cond.methodLink RJx4a65c 73 yJ8_newLength_cabcc, Cond.static yJ8_newLength_cabcc, Cond.initialized RJ8, Cond.code yJ8_newLength_cabcc cJ8_newLength_cabcc 4 (some .int), Cond.methodLink RJ8 194 Lib.Math.max.name, Cond.constant RJ8 200 (2147483639), Cond.methodLink RJ8 201 yJ8_hugeLength_7cf53, Cond.static yJ8_hugeLength_7cf53, Cond.code yJ8_hugeLength_7cf53 cJ8_hugeLength_7cf53 3 (some .int), Cond.methodLink RJx4a65c 66 yJ7_copyOf_1904c, Cond.static yJ7_copyOf_1904c, Cond.initialized RJ7, Cond.code yJ7_copyOf_1904c cJ7_copyOf_1904c 2 (some (.array (.object "java/lang/Object"))), Cond.methodLink RJ7 86 ⟨"java/lang/Object", "getClass", "()Ljava/lang/Class;"⟩, Cond.selects "[Ljava/lang/Object;" ⟨"java/lang/Object", "getClass", "()Ljava/lang/Class;"⟩ ⟨"java/lang/Object", "getClass", "()Ljava/lang/Class;"⟩, Cond.instanceMethod ⟨"java/lang/Object", "getClass", "()Ljava/lang/Class;"⟩, Cond.native ⟨"java/lang/Object", "getClass", "()Ljava/lang/Class;"⟩]
def wsJx4a65c_grow_92f84_r2 : List Cond := [Cond.methodLink RJ7 300 yJ7_copyOf_6403c, Cond.static yJ7_copyOf_6403c, Cond.code yJ7_copyOf_6403c cJ7_copyOf_6403c 4 (some (.array (.object "java/lang/Object"))), Cond.classLink RJ7 110 "[Ljava/lang/Object;", Cond.classLink RJ7 2 "java/lang/Object", Cond.methodLink RJ7 304 Lib.Math.min.name, Cond.static Lib.Math.min.name, Cond.code Lib.Math.min.name Lib.Math.min.code 2 (some .int), Cond.methodLink RJ7 150 arraycopyName, Cond.native arraycopyName, Cond.static arraycopyName, Cond.initialized "java/lang/System"]
def wsJx4a65c_grow_92f84 : List Cond := .code yJx4a65c_grow_92f84 cJx4a65c_grow_92f84 4 (some (.array (.object "java/lang/Object"))) :: ((wsJx4a65c_grow_92f84_r1 ++ wsJx4a65c_grow_92f84_r2) ++ wsJx4a65c0)
def wsJx4a65c_grow_d5877_r1 : List Cond := [Cond.fieldLink RJx4a65c 48 "java/util/ArrayList" "size" "I", Cond.methodLink RJx4a65c 69 yJx4a65c_grow_92f84, Cond.instanceMethod yJx4a65c_grow_92f84, Cond.selects RJx4a65c yJx4a65c_grow_92f84 yJx4a65c_grow_92f84, Cond.initialized RJx4a65c, Cond.code yJx4a65c_grow_92f84 cJx4a65c_grow_92f84 4 (some (.array (.object "java/lang/Object"))), Cond.fieldLink RJx4a65c 9 "java/util/ArrayList" "elementData" "[Ljava/lang/Object;", Cond.fieldLink RJx4a65c 39 "java/util/ArrayList" "DEFAULTCAPACITY_EMPTY_ELEMENTDATA" "[Ljava/lang/Object;", Cond.methodLink RJx4a65c 79 Lib.Math.max.name, Cond.static Lib.Math.max.name, Cond.initialized "java/lang/Math", Cond.code Lib.Math.max.name Lib.Math.max.code 2 (some .int), Cond.classLink RJx4a65c 7 "java/lang/Object", Cond.methodLink RJx4a65c 73 yJ8_newLength_cabcc, Cond.static yJ8_newLength_cabcc, Cond.initialized RJ8, Cond.code yJ8_newLength_cabcc cJ8_newLength_cabcc 4 (some .int), Cond.methodLink RJ8 194 Lib.Math.max.name, Cond.constant RJ8 200 (2147483639), Cond.methodLink RJ8 201 yJ8_hugeLength_7cf53, Cond.static yJ8_hugeLength_7cf53, Cond.code yJ8_hugeLength_7cf53 cJ8_hugeLength_7cf53 3 (some .int), Cond.methodLink RJx4a65c 66 yJ7_copyOf_1904c, Cond.static yJ7_copyOf_1904c]
def wsJx4a65c_grow_d5877_r2 : List Cond := [Cond.initialized RJ7, Cond.code yJ7_copyOf_1904c cJ7_copyOf_1904c 2 (some (.array (.object "java/lang/Object"))), Cond.methodLink RJ7 86 ⟨"java/lang/Object", "getClass", "()Ljava/lang/Class;"⟩, Cond.selects "[Ljava/lang/Object;" ⟨"java/lang/Object", "getClass", "()Ljava/lang/Class;"⟩ ⟨"java/lang/Object", "getClass", "()Ljava/lang/Class;"⟩, Cond.instanceMethod ⟨"java/lang/Object", "getClass", "()Ljava/lang/Class;"⟩, Cond.native ⟨"java/lang/Object", "getClass", "()Ljava/lang/Class;"⟩, Cond.methodLink RJ7 300 yJ7_copyOf_6403c, Cond.static yJ7_copyOf_6403c, Cond.code yJ7_copyOf_6403c cJ7_copyOf_6403c 4 (some (.array (.object "java/lang/Object"))), Cond.classLink RJ7 110 "[Ljava/lang/Object;", Cond.classLink RJ7 2 "java/lang/Object", Cond.methodLink RJ7 304 Lib.Math.min.name, Cond.static Lib.Math.min.name, Cond.code Lib.Math.min.name Lib.Math.min.code 2 (some .int), Cond.methodLink RJ7 150 arraycopyName, Cond.native arraycopyName, Cond.static arraycopyName, Cond.initialized "java/lang/System"]
def wsJx4a65c_grow_d5877 : List Cond := .code yJx4a65c_grow_d5877 cJx4a65c_grow_d5877 1 (some (.array (.object "java/lang/Object"))) :: ((wsJx4a65c_grow_d5877_r1 ++ wsJx4a65c_grow_d5877_r2) ++ wsJx4a65c0)
def wsJx4a65c_add_72be8_r1 : List Cond := [Cond.fieldLink RJx4a65c 48 "java/util/ArrayList" "size" "I", Cond.methodLink RJx4a65c 129 yJx4a65c_grow_d5877, Cond.instanceMethod yJx4a65c_grow_d5877, Cond.selects RJx4a65c yJx4a65c_grow_d5877 yJx4a65c_grow_d5877, Cond.initialized RJx4a65c, Cond.code yJx4a65c_grow_d5877 cJx4a65c_grow_d5877 1 (some (.array (.object "java/lang/Object"))), Cond.methodLink RJx4a65c 69 yJx4a65c_grow_92f84, Cond.instanceMethod yJx4a65c_grow_92f84, Cond.selects RJx4a65c yJx4a65c_grow_92f84 yJx4a65c_grow_92f84, Cond.code yJx4a65c_grow_92f84 cJx4a65c_grow_92f84 4 (some (.array (.object "java/lang/Object"))), Cond.fieldLink RJx4a65c 9 "java/util/ArrayList" "elementData" "[Ljava/lang/Object;", Cond.fieldLink RJx4a65c 39 "java/util/ArrayList" "DEFAULTCAPACITY_EMPTY_ELEMENTDATA" "[Ljava/lang/Object;", Cond.methodLink RJx4a65c 79 Lib.Math.max.name, Cond.static Lib.Math.max.name, Cond.initialized "java/lang/Math", Cond.code Lib.Math.max.name Lib.Math.max.code 2 (some .int), Cond.classLink RJx4a65c 7 "java/lang/Object", Cond.methodLink RJx4a65c 73 yJ8_newLength_cabcc, Cond.static yJ8_newLength_cabcc, Cond.initialized RJ8, Cond.code yJ8_newLength_cabcc cJ8_newLength_cabcc 4 (some .int), Cond.methodLink RJ8 194 Lib.Math.max.name, Cond.constant RJ8 200 (2147483639), Cond.methodLink RJ8 201 yJ8_hugeLength_7cf53]
def wsJx4a65c_add_72be8_r2 : List Cond := [Cond.static yJ8_hugeLength_7cf53, Cond.code yJ8_hugeLength_7cf53 cJ8_hugeLength_7cf53 3 (some .int), Cond.methodLink RJx4a65c 66 yJ7_copyOf_1904c, Cond.static yJ7_copyOf_1904c, Cond.initialized RJ7, Cond.code yJ7_copyOf_1904c cJ7_copyOf_1904c 2 (some (.array (.object "java/lang/Object"))), Cond.methodLink RJ7 86 ⟨"java/lang/Object", "getClass", "()Ljava/lang/Class;"⟩, Cond.selects "[Ljava/lang/Object;" ⟨"java/lang/Object", "getClass", "()Ljava/lang/Class;"⟩ ⟨"java/lang/Object", "getClass", "()Ljava/lang/Class;"⟩, Cond.instanceMethod ⟨"java/lang/Object", "getClass", "()Ljava/lang/Class;"⟩, Cond.native ⟨"java/lang/Object", "getClass", "()Ljava/lang/Class;"⟩, Cond.methodLink RJ7 300 yJ7_copyOf_6403c, Cond.static yJ7_copyOf_6403c, Cond.code yJ7_copyOf_6403c cJ7_copyOf_6403c 4 (some (.array (.object "java/lang/Object"))), Cond.classLink RJ7 110 "[Ljava/lang/Object;", Cond.classLink RJ7 2 "java/lang/Object", Cond.methodLink RJ7 304 Lib.Math.min.name, Cond.static Lib.Math.min.name, Cond.code Lib.Math.min.name Lib.Math.min.code 2 (some .int), Cond.methodLink RJ7 150 arraycopyName, Cond.native arraycopyName, Cond.static arraycopyName, Cond.initialized "java/lang/System"]
def wsJx4a65c_add_72be8 : List Cond := .code yJx4a65c_add_72be8 cJx4a65c_add_72be8 4 none :: ((wsJx4a65c_add_72be8_r1 ++ wsJx4a65c_add_72be8_r2) ++ wsJx4a65c0)
def wsJx4a65c_add_9ea2d_r1 : List Cond := [Cond.fieldLink RJx4a65c 63 "java/util/ArrayList" "modCount" "I", Cond.sameField "java/util/ArrayList" "java/util/AbstractList" "modCount" "I", Cond.fieldLink RJx4a65c 9 "java/util/ArrayList" "elementData" "[Ljava/lang/Object;", Cond.fieldLink RJx4a65c 48 "java/util/ArrayList" "size" "I", Cond.methodLink RJx4a65c 131 yJx4a65c_add_72be8, Cond.instanceMethod yJx4a65c_add_72be8, Cond.selects RJx4a65c yJx4a65c_add_72be8 yJx4a65c_add_72be8, Cond.initialized RJx4a65c, Cond.code yJx4a65c_add_72be8 cJx4a65c_add_72be8 4 none, Cond.methodLink RJx4a65c 129 yJx4a65c_grow_d5877, Cond.instanceMethod yJx4a65c_grow_d5877, Cond.selects RJx4a65c yJx4a65c_grow_d5877 yJx4a65c_grow_d5877, Cond.code yJx4a65c_grow_d5877 cJx4a65c_grow_d5877 1 (some (.array (.object "java/lang/Object"))), Cond.methodLink RJx4a65c 69 yJx4a65c_grow_92f84, Cond.instanceMethod yJx4a65c_grow_92f84, Cond.selects RJx4a65c yJx4a65c_grow_92f84 yJx4a65c_grow_92f84, Cond.code yJx4a65c_grow_92f84 cJx4a65c_grow_92f84 4 (some (.array (.object "java/lang/Object"))), Cond.fieldLink RJx4a65c 39 "java/util/ArrayList" "DEFAULTCAPACITY_EMPTY_ELEMENTDATA" "[Ljava/lang/Object;", Cond.methodLink RJx4a65c 79 Lib.Math.max.name, Cond.static Lib.Math.max.name, Cond.initialized "java/lang/Math", Cond.code Lib.Math.max.name Lib.Math.max.code 2 (some .int), Cond.classLink RJx4a65c 7 "java/lang/Object", Cond.methodLink RJx4a65c 73 yJ8_newLength_cabcc]
def wsJx4a65c_add_9ea2d_r2 : List Cond := [Cond.static yJ8_newLength_cabcc, Cond.initialized RJ8, Cond.code yJ8_newLength_cabcc cJ8_newLength_cabcc 4 (some .int), Cond.methodLink RJ8 194 Lib.Math.max.name, Cond.constant RJ8 200 (2147483639), Cond.methodLink RJ8 201 yJ8_hugeLength_7cf53, Cond.static yJ8_hugeLength_7cf53, Cond.code yJ8_hugeLength_7cf53 cJ8_hugeLength_7cf53 3 (some .int), Cond.methodLink RJx4a65c 66 yJ7_copyOf_1904c, Cond.static yJ7_copyOf_1904c, Cond.initialized RJ7, Cond.code yJ7_copyOf_1904c cJ7_copyOf_1904c 2 (some (.array (.object "java/lang/Object"))), Cond.methodLink RJ7 86 ⟨"java/lang/Object", "getClass", "()Ljava/lang/Class;"⟩, Cond.selects "[Ljava/lang/Object;" ⟨"java/lang/Object", "getClass", "()Ljava/lang/Class;"⟩ ⟨"java/lang/Object", "getClass", "()Ljava/lang/Class;"⟩, Cond.instanceMethod ⟨"java/lang/Object", "getClass", "()Ljava/lang/Class;"⟩, Cond.native ⟨"java/lang/Object", "getClass", "()Ljava/lang/Class;"⟩, Cond.methodLink RJ7 300 yJ7_copyOf_6403c, Cond.static yJ7_copyOf_6403c, Cond.code yJ7_copyOf_6403c cJ7_copyOf_6403c 4 (some (.array (.object "java/lang/Object"))), Cond.classLink RJ7 110 "[Ljava/lang/Object;", Cond.classLink RJ7 2 "java/lang/Object", Cond.methodLink RJ7 304 Lib.Math.min.name, Cond.static Lib.Math.min.name, Cond.code Lib.Math.min.name Lib.Math.min.code 2 (some .int)]
def wsJx4a65c_add_9ea2d_r3 : List Cond := [Cond.methodLink RJ7 150 arraycopyName, Cond.native arraycopyName, Cond.static arraycopyName, Cond.initialized "java/lang/System"]
def wsJx4a65c_add_9ea2d : List Cond := .code yJx4a65c_add_9ea2d cJx4a65c_add_9ea2d 2 (some .boolean) :: ((wsJx4a65c_add_9ea2d_r1 ++ (wsJx4a65c_add_9ea2d_r2 ++ wsJx4a65c_add_9ea2d_r3)) ++ wsJx4a65c0)
def wsX2_feeder_r1 : List Cond := [Cond.classLink RX2 38 "java/lang/IllegalStateException", Cond.initialized "java/lang/IllegalStateException", Cond.fieldLink RX2 10 "Shedwheel" "told" "Ljava/util/ArrayList;", Cond.classLink RX2 45 RX0, Cond.instantiable RX0 7, Cond.initialized RX0, Cond.methodLink RX2 30 yX2_requireWithin, Cond.static yX2_requireWithin, Cond.initialized RX2, Cond.code yX2_requireWithin cX2_requireWithin 3 none, Cond.classLink RX2 146 "java/lang/IllegalArgumentException", Cond.initialized "java/lang/IllegalArgumentException", Cond.methodLink RX2 34 yJx4a65c_size_8abf5, Cond.instanceMethod yJx4a65c_size_8abf5, Cond.selects RJx4a65c yJx4a65c_size_8abf5 yJx4a65c_size_8abf5, Cond.initialized RJx4a65c, Cond.code yJx4a65c_size_8abf5 cJx4a65c_size_8abf5 1 (some .int), Cond.fieldLink RJx4a65c 48 "java/util/ArrayList" "size" "I", Cond.instanceMethod yX0_init, Cond.code yX0_init cX0_init 4 none, Cond.methodLink RX0 3 objectInit, Cond.instanceMethod objectInit, Cond.code objectInit ⟨#[0xb1]⟩ 1 none, Cond.fieldLink RX0 9 "Shedwheel$Feeder" "off" "Z"]
def wsX2_feeder_r2 : List Cond := [Cond.fieldLink RX0 15 "Shedwheel$Feeder" "hoursOff" "I", Cond.fieldLink RX0 19 "Shedwheel$Feeder" "hoursOfThisCut" "I", Cond.fieldLink RX0 22 "Shedwheel$Feeder" "coldPart" "I", Cond.fieldLink RX0 25 "Shedwheel$Feeder" "megawatts" "I", Cond.fieldLink RX0 28 "Shedwheel$Feeder" "critical" "Z", Cond.fieldLink RX0 31 "Shedwheel$Feeder" "stage" "I", Cond.methodLink RX2 50 yJx4a65c_add_9ea2d, Cond.instanceMethod yJx4a65c_add_9ea2d, Cond.selects RJx4a65c yJx4a65c_add_9ea2d yJx4a65c_add_9ea2d, Cond.code yJx4a65c_add_9ea2d cJx4a65c_add_9ea2d 2 (some .boolean), Cond.fieldLink RJx4a65c 63 "java/util/ArrayList" "modCount" "I", Cond.sameField "java/util/ArrayList" "java/util/AbstractList" "modCount" "I", Cond.fieldLink RJx4a65c 9 "java/util/ArrayList" "elementData" "[Ljava/lang/Object;", Cond.methodLink RJx4a65c 131 yJx4a65c_add_72be8, Cond.instanceMethod yJx4a65c_add_72be8, Cond.selects RJx4a65c yJx4a65c_add_72be8 yJx4a65c_add_72be8, Cond.code yJx4a65c_add_72be8 cJx4a65c_add_72be8 4 none, Cond.methodLink RJx4a65c 129 yJx4a65c_grow_d5877, Cond.instanceMethod yJx4a65c_grow_d5877, Cond.selects RJx4a65c yJx4a65c_grow_d5877 yJx4a65c_grow_d5877, Cond.code yJx4a65c_grow_d5877 cJx4a65c_grow_d5877 1 (some (.array (.object "java/lang/Object"))), Cond.methodLink RJx4a65c 69 yJx4a65c_grow_92f84, Cond.instanceMethod yJx4a65c_grow_92f84, Cond.selects RJx4a65c yJx4a65c_grow_92f84 yJx4a65c_grow_92f84]
def wsX2_feeder_r3 : List Cond := [Cond.code yJx4a65c_grow_92f84 cJx4a65c_grow_92f84 4 (some (.array (.object "java/lang/Object"))), Cond.fieldLink RJx4a65c 39 "java/util/ArrayList" "DEFAULTCAPACITY_EMPTY_ELEMENTDATA" "[Ljava/lang/Object;", Cond.methodLink RJx4a65c 79 Lib.Math.max.name, Cond.static Lib.Math.max.name, Cond.initialized "java/lang/Math", Cond.code Lib.Math.max.name Lib.Math.max.code 2 (some .int), Cond.classLink RJx4a65c 7 "java/lang/Object", Cond.methodLink RJx4a65c 73 yJ8_newLength_cabcc, Cond.static yJ8_newLength_cabcc, Cond.initialized RJ8, Cond.code yJ8_newLength_cabcc cJ8_newLength_cabcc 4 (some .int), Cond.methodLink RJ8 194 Lib.Math.max.name, Cond.constant RJ8 200 (2147483639), Cond.methodLink RJ8 201 yJ8_hugeLength_7cf53, Cond.static yJ8_hugeLength_7cf53, Cond.code yJ8_hugeLength_7cf53 cJ8_hugeLength_7cf53 3 (some .int), Cond.methodLink RJx4a65c 66 yJ7_copyOf_1904c, Cond.static yJ7_copyOf_1904c, Cond.initialized RJ7, Cond.code yJ7_copyOf_1904c cJ7_copyOf_1904c 2 (some (.array (.object "java/lang/Object"))), Cond.methodLink RJ7 86 ⟨"java/lang/Object", "getClass", "()Ljava/lang/Class;"⟩, Cond.selects "[Ljava/lang/Object;" ⟨"java/lang/Object", "getClass", "()Ljava/lang/Class;"⟩ ⟨"java/lang/Object", "getClass", "()Ljava/lang/Class;"⟩, Cond.instanceMethod ⟨"java/lang/Object", "getClass", "()Ljava/lang/Class;"⟩, Cond.native ⟨"java/lang/Object", "getClass", "()Ljava/lang/Class;"⟩]
def wsX2_feeder_r4 : List Cond := [Cond.methodLink RJ7 300 yJ7_copyOf_6403c, Cond.static yJ7_copyOf_6403c, Cond.code yJ7_copyOf_6403c cJ7_copyOf_6403c 4 (some (.array (.object "java/lang/Object"))), Cond.classLink RJ7 110 "[Ljava/lang/Object;", Cond.classLink RJ7 2 "java/lang/Object", Cond.methodLink RJ7 304 Lib.Math.min.name, Cond.static Lib.Math.min.name, Cond.code Lib.Math.min.name Lib.Math.min.code 2 (some .int), Cond.methodLink RJ7 150 arraycopyName, Cond.native arraycopyName, Cond.static arraycopyName, Cond.initialized "java/lang/System"]
def wsX2_feeder : List Cond := .code yX2_feeder cX2_feeder 4 (some .int) :: ((wsX2_feeder_r1 ++ (wsX2_feeder_r2 ++ (wsX2_feeder_r3 ++ wsX2_feeder_r4))) ++ wsX20 ++ wsX00 ++ wsJx4a65c0 ++ (vx_atS RX2 42 "java/lang/IllegalStateException" ["java/lang/RuntimeException", "java/lang/Exception"]).filter goodWord ++ (vx_atS RX2 150 "java/lang/IllegalArgumentException" ["java/lang/RuntimeException", "java/lang/Exception"]).filter goodWord)
def wsX2_setSlack : List Cond := .code yX2_setSlack cX2_setSlack 3 (some .int) :: ([.fieldLink RX2 27 "Shedwheel" "slackNow" "I", .methodLink RX2 30 yX2_requireWithin, .static yX2_requireWithin, .initialized RX2, .code yX2_requireWithin cX2_requireWithin 3 none, .classLink RX2 146 "java/lang/IllegalArgumentException", .initialized "java/lang/IllegalArgumentException"] ++ wsX20 ++ (vx_atS RX2 150 "java/lang/IllegalArgumentException" ["java/lang/RuntimeException", "java/lang/Exception"]).filter goodWord)
def wsJ3_checkIndex_8e157 : List Cond := .code yJ3_checkIndex_8e157 cJ3_checkIndex_8e157 3 (some .int) :: ([])
def wsJ15_checkIndex_7cf53 : List Cond := .code yJ15_checkIndex_7cf53 cJ15_checkIndex_7cf53 2 (some .int) :: ([.methodLink RJ15 105 yJ3_checkIndex_8e157, .static yJ3_checkIndex_8e157, .initialized RJ3, .code yJ3_checkIndex_8e157 cJ3_checkIndex_8e157 3 (some .int)])
def wsJx4a65c_elementData_915e3 : List Cond := .code yJx4a65c_elementData_915e3 cJx4a65c_elementData_915e3 2 (some (.object "java/lang/Object")) :: ([.fieldLink RJx4a65c 9 "java/util/ArrayList" "elementData" "[Ljava/lang/Object;"] ++ wsJx4a65c0)
def wsJx4a65c_get_915e3 : List Cond := .code yJx4a65c_get_915e3 cJx4a65c_get_915e3 2 (some (.object "java/lang/Object")) :: ([.fieldLink RJx4a65c 48 "java/util/ArrayList" "size" "I", .methodLink RJx4a65c 118 yJ15_checkIndex_7cf53, .static yJ15_checkIndex_7cf53, .initialized RJ15, .code yJ15_checkIndex_7cf53 cJ15_checkIndex_7cf53 2 (some .int), .methodLink RJ15 105 yJ3_checkIndex_8e157, .static yJ3_checkIndex_8e157, .initialized RJ3, .code yJ3_checkIndex_8e157 cJ3_checkIndex_8e157 3 (some .int), .methodLink RJx4a65c 123 yJx4a65c_elementData_915e3, .instanceMethod yJx4a65c_elementData_915e3, .selects RJx4a65c yJx4a65c_elementData_915e3 yJx4a65c_elementData_915e3, .initialized RJx4a65c, .code yJx4a65c_elementData_915e3 cJx4a65c_elementData_915e3 2 (some (.object "java/lang/Object")), .fieldLink RJx4a65c 9 "java/util/ArrayList" "elementData" "[Ljava/lang/Object;"] ++ wsJx4a65c0)
def wsX2_pass_r1 : List Cond := [Cond.fieldLink RX2 23 "Shedwheel" "now" "I", Cond.fieldLink RX2 10 "Shedwheel" "told" "Ljava/util/ArrayList;", Cond.classLink RX2 45 "Shedwheel$Feeder", Cond.methodLink RX2 30 yX2_requireWithin, Cond.static yX2_requireWithin, Cond.initialized RX2, Cond.code yX2_requireWithin cX2_requireWithin 3 none, Cond.classLink RX2 146 "java/lang/IllegalArgumentException", Cond.initialized "java/lang/IllegalArgumentException", Cond.methodLink RX2 34 yJx4a65c_size_8abf5, Cond.instanceMethod yJx4a65c_size_8abf5, Cond.selects RJx4a65c yJx4a65c_size_8abf5 yJx4a65c_size_8abf5, Cond.initialized RJx4a65c, Cond.code yJx4a65c_size_8abf5 cJx4a65c_size_8abf5 1 (some .int), Cond.fieldLink RJx4a65c 48 "java/util/ArrayList" "size" "I", Cond.methodLink RX2 65 yJx4a65c_get_915e3, Cond.instanceMethod yJx4a65c_get_915e3, Cond.selects RJx4a65c yJx4a65c_get_915e3 yJx4a65c_get_915e3, Cond.code yJx4a65c_get_915e3 cJx4a65c_get_915e3 2 (some (.object "java/lang/Object")), Cond.methodLink RJx4a65c 118 yJ15_checkIndex_7cf53, Cond.static yJ15_checkIndex_7cf53, Cond.initialized RJ15, Cond.code yJ15_checkIndex_7cf53 cJ15_checkIndex_7cf53 2 (some .int), Cond.methodLink RJ15 105 yJ3_checkIndex_8e157]
def wsX2_pass_r2 : List Cond := [Cond.static yJ3_checkIndex_8e157, Cond.initialized RJ3, Cond.code yJ3_checkIndex_8e157 cJ3_checkIndex_8e157 3 (some .int), Cond.methodLink RJx4a65c 123 yJx4a65c_elementData_915e3, Cond.instanceMethod yJx4a65c_elementData_915e3, Cond.selects RJx4a65c yJx4a65c_elementData_915e3 yJx4a65c_elementData_915e3, Cond.code yJx4a65c_elementData_915e3 cJx4a65c_elementData_915e3 2 (some (.object "java/lang/Object")), Cond.fieldLink RJx4a65c 9 "java/util/ArrayList" "elementData" "[Ljava/lang/Object;", Cond.instanceMethod yX0_letPass, Cond.initialized RX0, Cond.selects RX0 yX0_letPass yX0_letPass, Cond.code yX0_letPass cX0_letPass 2 none, Cond.fieldLink RX0 9 "Shedwheel$Feeder" "off" "Z", Cond.fieldLink RX0 15 "Shedwheel$Feeder" "hoursOff" "I", Cond.fieldLink RX0 19 "Shedwheel$Feeder" "hoursOfThisCut" "I", Cond.fieldLink RX0 22 "Shedwheel$Feeder" "coldPart" "I", Cond.methodLink RX0 51 Lib.Math.max.name, Cond.static Lib.Math.max.name, Cond.initialized "java/lang/Math", Cond.code Lib.Math.max.name Lib.Math.max.code 2 (some .int)]
def wsX2_pass : List Cond := .code yX2_pass cX2_pass 3 (some .int) :: ((wsX2_pass_r1 ++ wsX2_pass_r2) ++ wsX20 ++ wsJx4a65c0 ++ wsX00 ++ (vx_atS RX2 150 "java/lang/IllegalArgumentException" ["java/lang/RuntimeException", "java/lang/Exception"]).filter goodWord)
def wsX2_prepareSearch_r1 : List Cond := [Cond.fieldLink RX2 19 "Shedwheel" "search" "LShedwheel$Search;", Cond.fieldLink RX2 27 "Shedwheel" "slackNow" "I", Cond.fieldLink RX2 10 "Shedwheel" "told" "Ljava/util/ArrayList;", Cond.classLink RX2 45 "Shedwheel$Feeder", Cond.instanceMethod yX1_begin, Cond.initialized RX1, Cond.selects RX1 yX1_begin yX1_begin, Cond.code yX1_begin cX1_begin 3 none, Cond.fieldLink RX1 28 "Shedwheel$Search" "shortfall" "I", Cond.fieldLink RX1 31 "Shedwheel$Search" "nearLimit" "I", Cond.fieldLink RX1 24 "Shedwheel$Search" "count" "I", Cond.fieldLink RX1 34 "Shedwheel$Search" "bestSet" "I", Cond.methodLink RX2 34 yJx4a65c_size_8abf5, Cond.instanceMethod yJx4a65c_size_8abf5, Cond.selects RJx4a65c yJx4a65c_size_8abf5 yJx4a65c_size_8abf5, Cond.initialized RJx4a65c, Cond.code yJx4a65c_size_8abf5 cJx4a65c_size_8abf5 1 (some .int), Cond.fieldLink RJx4a65c 48 "java/util/ArrayList" "size" "I", Cond.methodLink RX2 65 yJx4a65c_get_915e3, Cond.instanceMethod yJx4a65c_get_915e3, Cond.selects RJx4a65c yJx4a65c_get_915e3 yJx4a65c_get_915e3, Cond.code yJx4a65c_get_915e3 cJx4a65c_get_915e3 2 (some (.object "java/lang/Object")), Cond.methodLink RJx4a65c 118 yJ15_checkIndex_7cf53, Cond.static yJ15_checkIndex_7cf53]
def wsX2_prepareSearch_r2 : List Cond := [Cond.initialized RJ15, Cond.code yJ15_checkIndex_7cf53 cJ15_checkIndex_7cf53 2 (some .int), Cond.methodLink RJ15 105 yJ3_checkIndex_8e157, Cond.static yJ3_checkIndex_8e157, Cond.initialized RJ3, Cond.code yJ3_checkIndex_8e157 cJ3_checkIndex_8e157 3 (some .int), Cond.methodLink RJx4a65c 123 yJx4a65c_elementData_915e3, Cond.instanceMethod yJx4a65c_elementData_915e3, Cond.selects RJx4a65c yJx4a65c_elementData_915e3 yJx4a65c_elementData_915e3, Cond.code yJx4a65c_elementData_915e3 cJx4a65c_elementData_915e3 2 (some (.object "java/lang/Object")), Cond.fieldLink RJx4a65c 9 "java/util/ArrayList" "elementData" "[Ljava/lang/Object;", Cond.instanceMethod yX0_mayBeCut, Cond.initialized RX0, Cond.selects RX0 yX0_mayBeCut yX0_mayBeCut, Cond.code yX0_mayBeCut cX0_mayBeCut 1 (some .boolean), Cond.fieldLink RX0 9 "Shedwheel$Feeder" "off" "Z", Cond.fieldLink RX0 28 "Shedwheel$Feeder" "critical" "Z", Cond.instanceMethod yX0_taken, Cond.selects RX0 yX0_taken yX0_taken, Cond.code yX0_taken cX0_taken 1 (some .int), Cond.fieldLink RX0 22 "Shedwheel$Feeder" "coldPart" "I", Cond.methodLink RX0 34 yX0_withCold, Cond.instanceMethod yX0_withCold, Cond.selects RX0 yX0_withCold yX0_withCold]
def wsX2_prepareSearch_r3 : List Cond := [Cond.code yX0_withCold cX0_withCold 2 (some .int), Cond.fieldLink RX0 25 "Shedwheel$Feeder" "megawatts" "I", Cond.instanceMethod yX1_offer, Cond.selects RX1 yX1_offer yX1_offer, Cond.code yX1_offer cX1_offer 4 none, Cond.fieldLink RX1 9 "Shedwheel$Search" "bits" "[I", Cond.fieldLink RX1 15 "Shedwheel$Search" "takenBy" "[I", Cond.fieldLink RX1 18 "Shedwheel$Search" "hoursOf" "[I", Cond.fieldLink RX1 21 "Shedwheel$Search" "takenBelow" "[I"]
def wsX2_prepareSearch : List Cond := .code yX2_prepareSearch cX2_prepareSearch 4 none :: ((wsX2_prepareSearch_r1 ++ (wsX2_prepareSearch_r2 ++ wsX2_prepareSearch_r3)) ++ wsX20 ++ wsX00 ++ wsX10 ++ wsJx4a65c0)
def wsX2_chosenFor_r1 : List Cond := [Cond.fieldLink RX2 19 "Shedwheel" "search" "LShedwheel$Search;", Cond.methodLink RX2 132 yX2_prepareSearch, Cond.instanceMethod yX2_prepareSearch, Cond.selects RX2 yX2_prepareSearch yX2_prepareSearch, Cond.initialized RX2, Cond.code yX2_prepareSearch cX2_prepareSearch 4 none, Cond.fieldLink RX2 27 "Shedwheel" "slackNow" "I", Cond.fieldLink RX2 10 "Shedwheel" "told" "Ljava/util/ArrayList;", Cond.classLink RX2 45 "Shedwheel$Feeder", Cond.instanceMethod yX1_begin, Cond.initialized RX1, Cond.selects RX1 yX1_begin yX1_begin, Cond.code yX1_begin cX1_begin 3 none, Cond.fieldLink RX1 28 "Shedwheel$Search" "shortfall" "I", Cond.fieldLink RX1 31 "Shedwheel$Search" "nearLimit" "I", Cond.fieldLink RX1 24 "Shedwheel$Search" "count" "I", Cond.fieldLink RX1 34 "Shedwheel$Search" "bestSet" "I", Cond.methodLink RX2 34 yJx4a65c_size_8abf5, Cond.instanceMethod yJx4a65c_size_8abf5, Cond.selects RJx4a65c yJx4a65c_size_8abf5 yJx4a65c_size_8abf5, Cond.initialized RJx4a65c, Cond.code yJx4a65c_size_8abf5 cJx4a65c_size_8abf5 1 (some .int), Cond.fieldLink RJx4a65c 48 "java/util/ArrayList" "size" "I", Cond.methodLink RX2 65 yJx4a65c_get_915e3]
def wsX2_chosenFor_r2 : List Cond := [Cond.instanceMethod yJx4a65c_get_915e3, Cond.selects RJx4a65c yJx4a65c_get_915e3 yJx4a65c_get_915e3, Cond.code yJx4a65c_get_915e3 cJx4a65c_get_915e3 2 (some (.object "java/lang/Object")), Cond.methodLink RJx4a65c 118 yJ15_checkIndex_7cf53, Cond.static yJ15_checkIndex_7cf53, Cond.initialized RJ15, Cond.code yJ15_checkIndex_7cf53 cJ15_checkIndex_7cf53 2 (some .int), Cond.methodLink RJ15 105 yJ3_checkIndex_8e157, Cond.static yJ3_checkIndex_8e157, Cond.initialized RJ3, Cond.code yJ3_checkIndex_8e157 cJ3_checkIndex_8e157 3 (some .int), Cond.methodLink RJx4a65c 123 yJx4a65c_elementData_915e3, Cond.instanceMethod yJx4a65c_elementData_915e3, Cond.selects RJx4a65c yJx4a65c_elementData_915e3 yJx4a65c_elementData_915e3, Cond.code yJx4a65c_elementData_915e3 cJx4a65c_elementData_915e3 2 (some (.object "java/lang/Object")), Cond.fieldLink RJx4a65c 9 "java/util/ArrayList" "elementData" "[Ljava/lang/Object;", Cond.instanceMethod yX0_mayBeCut, Cond.initialized RX0, Cond.selects RX0 yX0_mayBeCut yX0_mayBeCut, Cond.code yX0_mayBeCut cX0_mayBeCut 1 (some .boolean), Cond.fieldLink RX0 9 "Shedwheel$Feeder" "off" "Z", Cond.fieldLink RX0 28 "Shedwheel$Feeder" "critical" "Z", Cond.instanceMethod yX0_taken, Cond.selects RX0 yX0_taken yX0_taken]
def wsX2_chosenFor_r3 : List Cond := [Cond.code yX0_taken cX0_taken 1 (some .int), Cond.fieldLink RX0 22 "Shedwheel$Feeder" "coldPart" "I", Cond.methodLink RX0 34 yX0_withCold, Cond.instanceMethod yX0_withCold, Cond.selects RX0 yX0_withCold yX0_withCold, Cond.code yX0_withCold cX0_withCold 2 (some .int), Cond.fieldLink RX0 25 "Shedwheel$Feeder" "megawatts" "I", Cond.instanceMethod yX1_offer, Cond.selects RX1 yX1_offer yX1_offer, Cond.code yX1_offer cX1_offer 4 none, Cond.fieldLink RX1 9 "Shedwheel$Search" "bits" "[I", Cond.fieldLink RX1 15 "Shedwheel$Search" "takenBy" "[I", Cond.fieldLink RX1 18 "Shedwheel$Search" "hoursOf" "[I", Cond.fieldLink RX1 21 "Shedwheel$Search" "takenBelow" "[I", Cond.instanceMethod yX1_bestByWalking, Cond.selects RX1 yX1_bestByWalking yX1_bestByWalking, Cond.code yX1_bestByWalking cX1_bestByWalking 1 (some .int), Cond.methodLink RX1 43 yX1_walk, Cond.static yX1_walk, Cond.code yX1_walk cX1_walk 6 none, Cond.methodLink RX1 47 yX1_weigh, Cond.instanceMethod yX1_weigh, Cond.selects RX1 yX1_weigh yX1_weigh, Cond.code yX1_weigh cX1_weigh 4 none]
def wsX2_chosenFor_r4 : List Cond := [Cond.fieldLink RX1 37 "Shedwheel$Search" "bestTaken" "I", Cond.fieldLink RX1 40 "Shedwheel$Search" "bestHours" "I", Cond.methodLink RX1 59 yX1_isBetter, Cond.instanceMethod yX1_isBetter, Cond.selects RX1 yX1_isBetter yX1_isBetter, Cond.code yX1_isBetter cX1_isBetter 5 (some .boolean)]
def wsX2_chosenFor : List Cond := .code yX2_chosenFor cX2_chosenFor 2 (some .int) :: ((wsX2_chosenFor_r1 ++ (wsX2_chosenFor_r2 ++ (wsX2_chosenFor_r3 ++ wsX2_chosenFor_r4))) ++ wsX20 ++ wsX00 ++ wsX10 ++ wsJx4a65c0)
def wsX2_holds : List Cond := .code yX2_holds cX2_holds 2 (some .boolean) :: ([])
def wsX2_relieve_r1 : List Cond := [Cond.classLink RX2 77 "java/util/NoSuchElementException", Cond.initialized "java/util/NoSuchElementException", Cond.fieldLink RX2 10 "Shedwheel" "told" "Ljava/util/ArrayList;", Cond.classLink RX2 45 "Shedwheel$Feeder", Cond.methodLink RX2 30 yX2_requireWithin, Cond.static yX2_requireWithin, Cond.initialized RX2, Cond.code yX2_requireWithin cX2_requireWithin 3 none, Cond.classLink RX2 146 "java/lang/IllegalArgumentException", Cond.initialized "java/lang/IllegalArgumentException", Cond.methodLink RX2 73 yX2_chosenFor, Cond.instanceMethod yX2_chosenFor, Cond.selects RX2 yX2_chosenFor yX2_chosenFor, Cond.code yX2_chosenFor cX2_chosenFor 2 (some .int), Cond.fieldLink RX2 19 "Shedwheel" "search" "LShedwheel$Search;", Cond.methodLink RX2 132 yX2_prepareSearch, Cond.instanceMethod yX2_prepareSearch, Cond.selects RX2 yX2_prepareSearch yX2_prepareSearch, Cond.code yX2_prepareSearch cX2_prepareSearch 4 none, Cond.fieldLink RX2 27 "Shedwheel" "slackNow" "I", Cond.instanceMethod yX1_begin, Cond.initialized RX1, Cond.selects RX1 yX1_begin yX1_begin, Cond.code yX1_begin cX1_begin 3 none]
def wsX2_relieve_r2 : List Cond := [Cond.fieldLink RX1 28 "Shedwheel$Search" "shortfall" "I", Cond.fieldLink RX1 31 "Shedwheel$Search" "nearLimit" "I", Cond.fieldLink RX1 24 "Shedwheel$Search" "count" "I", Cond.fieldLink RX1 34 "Shedwheel$Search" "bestSet" "I", Cond.methodLink RX2 34 yJx4a65c_size_8abf5, Cond.instanceMethod yJx4a65c_size_8abf5, Cond.selects RJx4a65c yJx4a65c_size_8abf5 yJx4a65c_size_8abf5, Cond.initialized RJx4a65c, Cond.code yJx4a65c_size_8abf5 cJx4a65c_size_8abf5 1 (some .int), Cond.fieldLink RJx4a65c 48 "java/util/ArrayList" "size" "I", Cond.methodLink RX2 65 yJx4a65c_get_915e3, Cond.instanceMethod yJx4a65c_get_915e3, Cond.selects RJx4a65c yJx4a65c_get_915e3 yJx4a65c_get_915e3, Cond.code yJx4a65c_get_915e3 cJx4a65c_get_915e3 2 (some (.object "java/lang/Object")), Cond.methodLink RJx4a65c 118 yJ15_checkIndex_7cf53, Cond.static yJ15_checkIndex_7cf53, Cond.initialized RJ15, Cond.code yJ15_checkIndex_7cf53 cJ15_checkIndex_7cf53 2 (some .int), Cond.methodLink RJ15 105 yJ3_checkIndex_8e157, Cond.static yJ3_checkIndex_8e157, Cond.initialized RJ3, Cond.code yJ3_checkIndex_8e157 cJ3_checkIndex_8e157 3 (some .int), Cond.methodLink RJx4a65c 123 yJx4a65c_elementData_915e3, Cond.instanceMethod yJx4a65c_elementData_915e3]
def wsX2_relieve_r3 : List Cond := [Cond.selects RJx4a65c yJx4a65c_elementData_915e3 yJx4a65c_elementData_915e3, Cond.code yJx4a65c_elementData_915e3 cJx4a65c_elementData_915e3 2 (some (.object "java/lang/Object")), Cond.fieldLink RJx4a65c 9 "java/util/ArrayList" "elementData" "[Ljava/lang/Object;", Cond.instanceMethod yX0_mayBeCut, Cond.initialized RX0, Cond.selects RX0 yX0_mayBeCut yX0_mayBeCut, Cond.code yX0_mayBeCut cX0_mayBeCut 1 (some .boolean), Cond.fieldLink RX0 9 "Shedwheel$Feeder" "off" "Z", Cond.fieldLink RX0 28 "Shedwheel$Feeder" "critical" "Z", Cond.instanceMethod yX0_taken, Cond.selects RX0 yX0_taken yX0_taken, Cond.code yX0_taken cX0_taken 1 (some .int), Cond.fieldLink RX0 22 "Shedwheel$Feeder" "coldPart" "I", Cond.methodLink RX0 34 yX0_withCold, Cond.instanceMethod yX0_withCold, Cond.selects RX0 yX0_withCold yX0_withCold, Cond.code yX0_withCold cX0_withCold 2 (some .int), Cond.fieldLink RX0 25 "Shedwheel$Feeder" "megawatts" "I", Cond.instanceMethod yX1_offer, Cond.selects RX1 yX1_offer yX1_offer, Cond.code yX1_offer cX1_offer 4 none, Cond.fieldLink RX1 9 "Shedwheel$Search" "bits" "[I", Cond.fieldLink RX1 15 "Shedwheel$Search" "takenBy" "[I", Cond.fieldLink RX1 18 "Shedwheel$Search" "hoursOf" "[I"]
def wsX2_relieve_r4 : List Cond := [Cond.fieldLink RX1 21 "Shedwheel$Search" "takenBelow" "[I", Cond.instanceMethod yX1_bestByWalking, Cond.selects RX1 yX1_bestByWalking yX1_bestByWalking, Cond.code yX1_bestByWalking cX1_bestByWalking 1 (some .int), Cond.methodLink RX1 43 yX1_walk, Cond.static yX1_walk, Cond.code yX1_walk cX1_walk 6 none, Cond.methodLink RX1 47 yX1_weigh, Cond.instanceMethod yX1_weigh, Cond.selects RX1 yX1_weigh yX1_weigh, Cond.code yX1_weigh cX1_weigh 4 none, Cond.fieldLink RX1 37 "Shedwheel$Search" "bestTaken" "I", Cond.fieldLink RX1 40 "Shedwheel$Search" "bestHours" "I", Cond.methodLink RX1 59 yX1_isBetter, Cond.instanceMethod yX1_isBetter, Cond.selects RX1 yX1_isBetter yX1_isBetter, Cond.code yX1_isBetter cX1_isBetter 5 (some .boolean), Cond.methodLink RX2 82 yX2_holds, Cond.static yX2_holds, Cond.code yX2_holds cX2_holds 2 (some .boolean), Cond.instanceMethod yX0_switchOff, Cond.selects RX0 yX0_switchOff yX0_switchOff, Cond.code yX0_switchOff cX0_switchOff 2 (some .int), Cond.fieldLink RX0 19 "Shedwheel$Feeder" "hoursOfThisCut" "I"]
def wsX2_relieve_r5 : List Cond := [Cond.methodLink RX0 42 yX0_taken]
def wsX2_relieve : List Cond := .code yX2_relieve cX2_relieve 5 (some .int) :: ((wsX2_relieve_r1 ++ (wsX2_relieve_r2 ++ (wsX2_relieve_r3 ++ (wsX2_relieve_r4 ++ wsX2_relieve_r5)))) ++ wsX20 ++ wsX00 ++ wsX10 ++ wsJx4a65c0 ++ (zx_at RX2 81).filter goodWord ++ (vx_atS RX2 150 "java/lang/IllegalArgumentException" ["java/lang/RuntimeException", "java/lang/Exception"]).filter goodWord)
def wsX2_takenByReturning_r1 : List Cond := [Cond.fieldLink RX2 10 "Shedwheel" "told" "Ljava/util/ArrayList;", Cond.classLink RX2 45 "Shedwheel$Feeder", Cond.methodLink RX2 34 yJx4a65c_size_8abf5, Cond.instanceMethod yJx4a65c_size_8abf5, Cond.selects RJx4a65c yJx4a65c_size_8abf5 yJx4a65c_size_8abf5, Cond.initialized RJx4a65c, Cond.code yJx4a65c_size_8abf5 cJx4a65c_size_8abf5 1 (some .int), Cond.fieldLink RJx4a65c 48 "java/util/ArrayList" "size" "I", Cond.methodLink RX2 65 yJx4a65c_get_915e3, Cond.instanceMethod yJx4a65c_get_915e3, Cond.selects RJx4a65c yJx4a65c_get_915e3 yJx4a65c_get_915e3, Cond.code yJx4a65c_get_915e3 cJx4a65c_get_915e3 2 (some (.object "java/lang/Object")), Cond.methodLink RJx4a65c 118 yJ15_checkIndex_7cf53, Cond.static yJ15_checkIndex_7cf53, Cond.initialized RJ15, Cond.code yJ15_checkIndex_7cf53 cJ15_checkIndex_7cf53 2 (some .int), Cond.methodLink RJ15 105 yJ3_checkIndex_8e157, Cond.static yJ3_checkIndex_8e157, Cond.initialized RJ3, Cond.code yJ3_checkIndex_8e157 cJ3_checkIndex_8e157 3 (some .int), Cond.methodLink RJx4a65c 123 yJx4a65c_elementData_915e3, Cond.instanceMethod yJx4a65c_elementData_915e3, Cond.selects RJx4a65c yJx4a65c_elementData_915e3 yJx4a65c_elementData_915e3, Cond.code yJx4a65c_elementData_915e3 cJx4a65c_elementData_915e3 2 (some (.object "java/lang/Object"))]
def wsX2_takenByReturning_r2 : List Cond := [Cond.fieldLink RJx4a65c 9 "java/util/ArrayList" "elementData" "[Ljava/lang/Object;", Cond.instanceMethod yX0_mayReturn, Cond.initialized RX0, Cond.selects RX0 yX0_mayReturn yX0_mayReturn, Cond.code yX0_mayReturn cX0_mayReturn 1 (some .boolean), Cond.fieldLink RX0 9 "Shedwheel$Feeder" "off" "Z", Cond.fieldLink RX0 28 "Shedwheel$Feeder" "critical" "Z", Cond.instanceMethod yX0_takenIfRestored, Cond.selects RX0 yX0_takenIfRestored yX0_takenIfRestored, Cond.code yX0_takenIfRestored cX0_takenIfRestored 1 (some .int), Cond.methodLink RX0 38 yX0_coldOnReturn, Cond.instanceMethod yX0_coldOnReturn, Cond.selects RX0 yX0_coldOnReturn yX0_coldOnReturn, Cond.code yX0_coldOnReturn cX0_coldOnReturn 1 (some .int), Cond.fieldLink RX0 19 "Shedwheel$Feeder" "hoursOfThisCut" "I", Cond.methodLink RX0 45 Lib.Math.min.name, Cond.static Lib.Math.min.name, Cond.initialized "java/lang/Math", Cond.code Lib.Math.min.name Lib.Math.min.code 2 (some .int), Cond.methodLink RX0 34 yX0_withCold, Cond.instanceMethod yX0_withCold, Cond.selects RX0 yX0_withCold yX0_withCold, Cond.code yX0_withCold cX0_withCold 2 (some .int), Cond.fieldLink RX0 25 "Shedwheel$Feeder" "megawatts" "I"]
def wsX2_takenByReturning_r3 : List Cond := [Cond.methodLink RX0 42 yX0_taken, Cond.instanceMethod yX0_taken, Cond.selects RX0 yX0_taken yX0_taken, Cond.code yX0_taken cX0_taken 1 (some .int), Cond.fieldLink RX0 22 "Shedwheel$Feeder" "coldPart" "I"]
def wsX2_takenByReturning : List Cond := .code yX2_takenByReturning cX2_takenByReturning 4 (some .int) :: ((wsX2_takenByReturning_r1 ++ (wsX2_takenByReturning_r2 ++ wsX2_takenByReturning_r3)) ++ wsX20 ++ wsJx4a65c0 ++ wsX00)
def wsX2_swapFor_r1 : List Cond := [Cond.fieldLink RX2 10 "Shedwheel" "told" "Ljava/util/ArrayList;", Cond.classLink RX2 45 "Shedwheel$Feeder", Cond.methodLink RX2 34 yJx4a65c_size_8abf5, Cond.instanceMethod yJx4a65c_size_8abf5, Cond.selects RJx4a65c yJx4a65c_size_8abf5 yJx4a65c_size_8abf5, Cond.initialized RJx4a65c, Cond.code yJx4a65c_size_8abf5 cJx4a65c_size_8abf5 1 (some .int), Cond.fieldLink RJx4a65c 48 "java/util/ArrayList" "size" "I", Cond.methodLink RX2 65 yJx4a65c_get_915e3, Cond.instanceMethod yJx4a65c_get_915e3, Cond.selects RJx4a65c yJx4a65c_get_915e3 yJx4a65c_get_915e3, Cond.code yJx4a65c_get_915e3 cJx4a65c_get_915e3 2 (some (.object "java/lang/Object")), Cond.methodLink RJx4a65c 118 yJ15_checkIndex_7cf53, Cond.static yJ15_checkIndex_7cf53, Cond.initialized RJ15, Cond.code yJ15_checkIndex_7cf53 cJ15_checkIndex_7cf53 2 (some .int), Cond.methodLink RJ15 105 yJ3_checkIndex_8e157, Cond.static yJ3_checkIndex_8e157, Cond.initialized RJ3, Cond.code yJ3_checkIndex_8e157 cJ3_checkIndex_8e157 3 (some .int), Cond.methodLink RJx4a65c 123 yJx4a65c_elementData_915e3, Cond.instanceMethod yJx4a65c_elementData_915e3, Cond.selects RJx4a65c yJx4a65c_elementData_915e3 yJx4a65c_elementData_915e3, Cond.code yJx4a65c_elementData_915e3 cJx4a65c_elementData_915e3 2 (some (.object "java/lang/Object"))]
def wsX2_swapFor_r2 : List Cond := [Cond.fieldLink RJx4a65c 9 "java/util/ArrayList" "elementData" "[Ljava/lang/Object;", Cond.instanceMethod yX0_mayReturn, Cond.initialized RX0, Cond.selects RX0 yX0_mayReturn yX0_mayReturn, Cond.code yX0_mayReturn cX0_mayReturn 1 (some .boolean), Cond.fieldLink RX0 9 "Shedwheel$Feeder" "off" "Z", Cond.fieldLink RX0 28 "Shedwheel$Feeder" "critical" "Z", Cond.instanceMethod yX0_switchOn, Cond.selects RX0 yX0_switchOn yX0_switchOn, Cond.code yX0_switchOn cX0_switchOn 1 none, Cond.fieldLink RX0 22 "Shedwheel$Feeder" "coldPart" "I", Cond.methodLink RX0 38 yX0_coldOnReturn, Cond.instanceMethod yX0_coldOnReturn, Cond.selects RX0 yX0_coldOnReturn yX0_coldOnReturn, Cond.code yX0_coldOnReturn cX0_coldOnReturn 1 (some .int), Cond.fieldLink RX0 19 "Shedwheel$Feeder" "hoursOfThisCut" "I", Cond.methodLink RX0 45 Lib.Math.min.name, Cond.static Lib.Math.min.name, Cond.initialized "java/lang/Math", Cond.code Lib.Math.min.name Lib.Math.min.code 2 (some .int), Cond.methodLink RX2 82 yX2_holds, Cond.static yX2_holds, Cond.initialized RX2, Cond.code yX2_holds cX2_holds 2 (some .boolean)]
def wsX2_swapFor_r3 : List Cond := [Cond.instanceMethod yX0_switchOff, Cond.selects RX0 yX0_switchOff yX0_switchOff, Cond.code yX0_switchOff cX0_switchOff 2 (some .int), Cond.methodLink RX0 42 yX0_taken, Cond.instanceMethod yX0_taken, Cond.selects RX0 yX0_taken yX0_taken, Cond.code yX0_taken cX0_taken 1 (some .int), Cond.methodLink RX0 34 yX0_withCold, Cond.instanceMethod yX0_withCold, Cond.selects RX0 yX0_withCold yX0_withCold, Cond.code yX0_withCold cX0_withCold 2 (some .int), Cond.fieldLink RX0 25 "Shedwheel$Feeder" "megawatts" "I"]
def wsX2_swapFor : List Cond := .code yX2_swapFor cX2_swapFor 5 (some .int) :: ((wsX2_swapFor_r1 ++ (wsX2_swapFor_r2 ++ wsX2_swapFor_r3)) ++ wsX20 ++ wsJx4a65c0 ++ wsX00)
def wsX2_rotate_r1 : List Cond := [Cond.classLink RX2 38 "java/lang/IllegalStateException", Cond.initialized "java/lang/IllegalStateException", Cond.classLink RX2 77 "java/util/NoSuchElementException", Cond.initialized "java/util/NoSuchElementException", Cond.methodLink RX2 89 yX2_takenByReturning, Cond.instanceMethod yX2_takenByReturning, Cond.selects RX2 yX2_takenByReturning yX2_takenByReturning, Cond.initialized RX2, Cond.code yX2_takenByReturning cX2_takenByReturning 4 (some .int), Cond.fieldLink RX2 10 "Shedwheel" "told" "Ljava/util/ArrayList;", Cond.classLink RX2 45 "Shedwheel$Feeder", Cond.methodLink RX2 34 yJx4a65c_size_8abf5, Cond.instanceMethod yJx4a65c_size_8abf5, Cond.selects RJx4a65c yJx4a65c_size_8abf5 yJx4a65c_size_8abf5, Cond.initialized RJx4a65c, Cond.code yJx4a65c_size_8abf5 cJx4a65c_size_8abf5 1 (some .int), Cond.fieldLink RJx4a65c 48 "java/util/ArrayList" "size" "I", Cond.methodLink RX2 65 yJx4a65c_get_915e3, Cond.instanceMethod yJx4a65c_get_915e3, Cond.selects RJx4a65c yJx4a65c_get_915e3 yJx4a65c_get_915e3, Cond.code yJx4a65c_get_915e3 cJx4a65c_get_915e3 2 (some (.object "java/lang/Object")), Cond.methodLink RJx4a65c 118 yJ15_checkIndex_7cf53, Cond.static yJ15_checkIndex_7cf53, Cond.initialized RJ15]
def wsX2_rotate_r2 : List Cond := [Cond.code yJ15_checkIndex_7cf53 cJ15_checkIndex_7cf53 2 (some .int), Cond.methodLink RJ15 105 yJ3_checkIndex_8e157, Cond.static yJ3_checkIndex_8e157, Cond.initialized RJ3, Cond.code yJ3_checkIndex_8e157 cJ3_checkIndex_8e157 3 (some .int), Cond.methodLink RJx4a65c 123 yJx4a65c_elementData_915e3, Cond.instanceMethod yJx4a65c_elementData_915e3, Cond.selects RJx4a65c yJx4a65c_elementData_915e3 yJx4a65c_elementData_915e3, Cond.code yJx4a65c_elementData_915e3 cJx4a65c_elementData_915e3 2 (some (.object "java/lang/Object")), Cond.fieldLink RJx4a65c 9 "java/util/ArrayList" "elementData" "[Ljava/lang/Object;", Cond.instanceMethod yX0_mayReturn, Cond.initialized RX0, Cond.selects RX0 yX0_mayReturn yX0_mayReturn, Cond.code yX0_mayReturn cX0_mayReturn 1 (some .boolean), Cond.fieldLink RX0 9 "Shedwheel$Feeder" "off" "Z", Cond.fieldLink RX0 28 "Shedwheel$Feeder" "critical" "Z", Cond.instanceMethod yX0_takenIfRestored, Cond.selects RX0 yX0_takenIfRestored yX0_takenIfRestored, Cond.code yX0_takenIfRestored cX0_takenIfRestored 1 (some .int), Cond.methodLink RX0 38 yX0_coldOnReturn, Cond.instanceMethod yX0_coldOnReturn, Cond.selects RX0 yX0_coldOnReturn yX0_coldOnReturn, Cond.code yX0_coldOnReturn cX0_coldOnReturn 1 (some .int), Cond.fieldLink RX0 19 "Shedwheel$Feeder" "hoursOfThisCut" "I"]
def wsX2_rotate_r3 : List Cond := [Cond.methodLink RX0 45 Lib.Math.min.name, Cond.static Lib.Math.min.name, Cond.initialized "java/lang/Math", Cond.code Lib.Math.min.name Lib.Math.min.code 2 (some .int), Cond.methodLink RX0 34 yX0_withCold, Cond.instanceMethod yX0_withCold, Cond.selects RX0 yX0_withCold yX0_withCold, Cond.code yX0_withCold cX0_withCold 2 (some .int), Cond.fieldLink RX0 25 "Shedwheel$Feeder" "megawatts" "I", Cond.methodLink RX0 42 yX0_taken, Cond.instanceMethod yX0_taken, Cond.selects RX0 yX0_taken yX0_taken, Cond.code yX0_taken cX0_taken 1 (some .int), Cond.fieldLink RX0 22 "Shedwheel$Feeder" "coldPart" "I", Cond.methodLink RX2 73 yX2_chosenFor, Cond.instanceMethod yX2_chosenFor, Cond.selects RX2 yX2_chosenFor yX2_chosenFor, Cond.code yX2_chosenFor cX2_chosenFor 2 (some .int), Cond.fieldLink RX2 19 "Shedwheel" "search" "LShedwheel$Search;", Cond.methodLink RX2 132 yX2_prepareSearch, Cond.instanceMethod yX2_prepareSearch, Cond.selects RX2 yX2_prepareSearch yX2_prepareSearch, Cond.code yX2_prepareSearch cX2_prepareSearch 4 none, Cond.fieldLink RX2 27 "Shedwheel" "slackNow" "I"]
def wsX2_rotate_r4 : List Cond := [Cond.instanceMethod yX1_begin, Cond.initialized RX1, Cond.selects RX1 yX1_begin yX1_begin, Cond.code yX1_begin cX1_begin 3 none, Cond.fieldLink RX1 28 "Shedwheel$Search" "shortfall" "I", Cond.fieldLink RX1 31 "Shedwheel$Search" "nearLimit" "I", Cond.fieldLink RX1 24 "Shedwheel$Search" "count" "I", Cond.fieldLink RX1 34 "Shedwheel$Search" "bestSet" "I", Cond.instanceMethod yX0_mayBeCut, Cond.selects RX0 yX0_mayBeCut yX0_mayBeCut, Cond.code yX0_mayBeCut cX0_mayBeCut 1 (some .boolean), Cond.instanceMethod yX1_offer, Cond.selects RX1 yX1_offer yX1_offer, Cond.code yX1_offer cX1_offer 4 none, Cond.fieldLink RX1 9 "Shedwheel$Search" "bits" "[I", Cond.fieldLink RX1 15 "Shedwheel$Search" "takenBy" "[I", Cond.fieldLink RX1 18 "Shedwheel$Search" "hoursOf" "[I", Cond.fieldLink RX1 21 "Shedwheel$Search" "takenBelow" "[I", Cond.instanceMethod yX1_bestByWalking, Cond.selects RX1 yX1_bestByWalking yX1_bestByWalking, Cond.code yX1_bestByWalking cX1_bestByWalking 1 (some .int), Cond.methodLink RX1 43 yX1_walk, Cond.static yX1_walk, Cond.code yX1_walk cX1_walk 6 none]
def wsX2_rotate_r5 : List Cond := [Cond.methodLink RX1 47 yX1_weigh, Cond.instanceMethod yX1_weigh, Cond.selects RX1 yX1_weigh yX1_weigh, Cond.code yX1_weigh cX1_weigh 4 none, Cond.fieldLink RX1 37 "Shedwheel$Search" "bestTaken" "I", Cond.fieldLink RX1 40 "Shedwheel$Search" "bestHours" "I", Cond.methodLink RX1 59 yX1_isBetter, Cond.instanceMethod yX1_isBetter, Cond.selects RX1 yX1_isBetter yX1_isBetter, Cond.code yX1_isBetter cX1_isBetter 5 (some .boolean), Cond.methodLink RX2 94 yX2_swapFor, Cond.instanceMethod yX2_swapFor, Cond.selects RX2 yX2_swapFor yX2_swapFor, Cond.code yX2_swapFor cX2_swapFor 5 (some .int), Cond.instanceMethod yX0_switchOn, Cond.selects RX0 yX0_switchOn yX0_switchOn, Cond.code yX0_switchOn cX0_switchOn 1 none, Cond.methodLink RX2 82 yX2_holds, Cond.static yX2_holds, Cond.code yX2_holds cX2_holds 2 (some .boolean), Cond.instanceMethod yX0_switchOff, Cond.selects RX0 yX0_switchOff yX0_switchOff, Cond.code yX0_switchOff cX0_switchOff 2 (some .int)]
def wsX2_rotate : List Cond := .code yX2_rotate cX2_rotate 3 (some .int) :: ((wsX2_rotate_r1 ++ (wsX2_rotate_r2 ++ (wsX2_rotate_r3 ++ (wsX2_rotate_r4 ++ wsX2_rotate_r5)))) ++ wsX20 ++ wsJx4a65c0 ++ wsX00 ++ wsX10 ++ (vx_atS RX2 42 "java/lang/IllegalStateException" ["java/lang/RuntimeException", "java/lang/Exception"]).filter goodWord ++ (zx_at RX2 81).filter goodWord)
def wsX2_feederOf_r1 : List Cond := [Cond.classLink RX2 151 "java/lang/IndexOutOfBoundsException", Cond.initialized "java/lang/IndexOutOfBoundsException", Cond.fieldLink RX2 10 "Shedwheel" "told" "Ljava/util/ArrayList;", Cond.classLink RX2 45 "Shedwheel$Feeder", Cond.methodLink RX2 34 yJx4a65c_size_8abf5, Cond.instanceMethod yJx4a65c_size_8abf5, Cond.selects RJx4a65c yJx4a65c_size_8abf5 yJx4a65c_size_8abf5, Cond.initialized RJx4a65c, Cond.code yJx4a65c_size_8abf5 cJx4a65c_size_8abf5 1 (some .int), Cond.fieldLink RJx4a65c 48 "java/util/ArrayList" "size" "I", Cond.methodLink RX2 65 yJx4a65c_get_915e3, Cond.instanceMethod yJx4a65c_get_915e3, Cond.selects RJx4a65c yJx4a65c_get_915e3 yJx4a65c_get_915e3, Cond.code yJx4a65c_get_915e3 cJx4a65c_get_915e3 2 (some (.object "java/lang/Object")), Cond.methodLink RJx4a65c 118 yJ15_checkIndex_7cf53, Cond.static yJ15_checkIndex_7cf53, Cond.initialized RJ15, Cond.code yJ15_checkIndex_7cf53 cJ15_checkIndex_7cf53 2 (some .int), Cond.methodLink RJ15 105 yJ3_checkIndex_8e157, Cond.static yJ3_checkIndex_8e157, Cond.initialized RJ3, Cond.code yJ3_checkIndex_8e157 cJ3_checkIndex_8e157 3 (some .int), Cond.methodLink RJx4a65c 123 yJx4a65c_elementData_915e3, Cond.instanceMethod yJx4a65c_elementData_915e3]
def wsX2_feederOf_r2 : List Cond := [Cond.selects RJx4a65c yJx4a65c_elementData_915e3 yJx4a65c_elementData_915e3, Cond.code yJx4a65c_elementData_915e3 cJx4a65c_elementData_915e3 2 (some (.object "java/lang/Object")), Cond.fieldLink RJx4a65c 9 "java/util/ArrayList" "elementData" "[Ljava/lang/Object;"]
def wsX2_feederOf : List Cond := .code yX2_feederOf cX2_feederOf 2 (some (.object "Shedwheel$Feeder")) :: ((wsX2_feederOf_r1 ++ wsX2_feederOf_r2) ++ wsX20 ++ wsJx4a65c0 ++ (vx_atS RX2 155 "java/lang/IndexOutOfBoundsException" ["java/lang/RuntimeException", "java/lang/Exception"]).filter goodWord)
def wsX2_restore_r1 : List Cond := [Cond.classLink RX2 38 "java/lang/IllegalStateException", Cond.initialized "java/lang/IllegalStateException", Cond.methodLink RX2 54 yX2_feederOf, Cond.instanceMethod yX2_feederOf, Cond.selects RX2 yX2_feederOf yX2_feederOf, Cond.initialized RX2, Cond.code yX2_feederOf cX2_feederOf 2 (some (.object "Shedwheel$Feeder")), Cond.classLink RX2 151 "java/lang/IndexOutOfBoundsException", Cond.initialized "java/lang/IndexOutOfBoundsException", Cond.fieldLink RX2 10 "Shedwheel" "told" "Ljava/util/ArrayList;", Cond.classLink RX2 45 "Shedwheel$Feeder", Cond.methodLink RX2 34 yJx4a65c_size_8abf5, Cond.instanceMethod yJx4a65c_size_8abf5, Cond.selects RJx4a65c yJx4a65c_size_8abf5 yJx4a65c_size_8abf5, Cond.initialized RJx4a65c, Cond.code yJx4a65c_size_8abf5 cJx4a65c_size_8abf5 1 (some .int), Cond.fieldLink RJx4a65c 48 "java/util/ArrayList" "size" "I", Cond.methodLink RX2 65 yJx4a65c_get_915e3, Cond.instanceMethod yJx4a65c_get_915e3, Cond.selects RJx4a65c yJx4a65c_get_915e3 yJx4a65c_get_915e3, Cond.code yJx4a65c_get_915e3 cJx4a65c_get_915e3 2 (some (.object "java/lang/Object")), Cond.methodLink RJx4a65c 118 yJ15_checkIndex_7cf53, Cond.static yJ15_checkIndex_7cf53, Cond.initialized RJ15]
def wsX2_restore_r2 : List Cond := [Cond.code yJ15_checkIndex_7cf53 cJ15_checkIndex_7cf53 2 (some .int), Cond.methodLink RJ15 105 yJ3_checkIndex_8e157, Cond.static yJ3_checkIndex_8e157, Cond.initialized RJ3, Cond.code yJ3_checkIndex_8e157 cJ3_checkIndex_8e157 3 (some .int), Cond.methodLink RJx4a65c 123 yJx4a65c_elementData_915e3, Cond.instanceMethod yJx4a65c_elementData_915e3, Cond.selects RJx4a65c yJx4a65c_elementData_915e3 yJx4a65c_elementData_915e3, Cond.code yJx4a65c_elementData_915e3 cJx4a65c_elementData_915e3 2 (some (.object "java/lang/Object")), Cond.fieldLink RJx4a65c 9 "java/util/ArrayList" "elementData" "[Ljava/lang/Object;", Cond.instanceMethod yX0_switchOn, Cond.initialized RX0, Cond.selects RX0 yX0_switchOn yX0_switchOn, Cond.code yX0_switchOn cX0_switchOn 1 none, Cond.fieldLink RX0 22 "Shedwheel$Feeder" "coldPart" "I", Cond.fieldLink RX0 9 "Shedwheel$Feeder" "off" "Z", Cond.methodLink RX0 38 yX0_coldOnReturn, Cond.instanceMethod yX0_coldOnReturn, Cond.selects RX0 yX0_coldOnReturn yX0_coldOnReturn, Cond.code yX0_coldOnReturn cX0_coldOnReturn 1 (some .int), Cond.fieldLink RX0 19 "Shedwheel$Feeder" "hoursOfThisCut" "I", Cond.methodLink RX0 45 Lib.Math.min.name, Cond.static Lib.Math.min.name, Cond.initialized "java/lang/Math"]
def wsX2_restore_r3 : List Cond := [Cond.code Lib.Math.min.name Lib.Math.min.code 2 (some .int), Cond.instanceMethod yX0_taken, Cond.selects RX0 yX0_taken yX0_taken, Cond.code yX0_taken cX0_taken 1 (some .int), Cond.methodLink RX0 34 yX0_withCold, Cond.instanceMethod yX0_withCold, Cond.selects RX0 yX0_withCold yX0_withCold, Cond.code yX0_withCold cX0_withCold 2 (some .int), Cond.fieldLink RX0 25 "Shedwheel$Feeder" "megawatts" "I"]
def wsX2_restore : List Cond := .code yX2_restore cX2_restore 3 (some .int) :: ((wsX2_restore_r1 ++ (wsX2_restore_r2 ++ wsX2_restore_r3)) ++ wsX00 ++ wsX20 ++ wsJx4a65c0 ++ (vx_atS RX2 42 "java/lang/IllegalStateException" ["java/lang/RuntimeException", "java/lang/Exception"]).filter goodWord ++ (vx_atS RX2 155 "java/lang/IndexOutOfBoundsException" ["java/lang/RuntimeException", "java/lang/Exception"]).filter goodWord)
def wsX2_hour : List Cond := .code yX2_hour cX2_hour 1 (some .int) :: ([.fieldLink RX2 23 "Shedwheel" "now" "I"] ++ wsX20)
def wsX2_feeders : List Cond := .code yX2_feeders cX2_feeders 1 (some .int) :: ([.fieldLink RX2 10 "Shedwheel" "told" "Ljava/util/ArrayList;", .methodLink RX2 34 yJx4a65c_size_8abf5, .instanceMethod yJx4a65c_size_8abf5, .selects RJx4a65c yJx4a65c_size_8abf5 yJx4a65c_size_8abf5, .initialized RJx4a65c, .code yJx4a65c_size_8abf5 cJx4a65c_size_8abf5 1 (some .int), .fieldLink RJx4a65c 48 "java/util/ArrayList" "size" "I"] ++ wsX20 ++ wsJx4a65c0)
def wsX2_isCut_r1 : List Cond := [Cond.methodLink RX2 54 yX2_feederOf, Cond.instanceMethod yX2_feederOf, Cond.selects RX2 yX2_feederOf yX2_feederOf, Cond.initialized RX2, Cond.code yX2_feederOf cX2_feederOf 2 (some (.object "Shedwheel$Feeder")), Cond.classLink RX2 151 "java/lang/IndexOutOfBoundsException", Cond.initialized "java/lang/IndexOutOfBoundsException", Cond.fieldLink RX2 10 "Shedwheel" "told" "Ljava/util/ArrayList;", Cond.classLink RX2 45 "Shedwheel$Feeder", Cond.methodLink RX2 34 yJx4a65c_size_8abf5, Cond.instanceMethod yJx4a65c_size_8abf5, Cond.selects RJx4a65c yJx4a65c_size_8abf5 yJx4a65c_size_8abf5, Cond.initialized RJx4a65c, Cond.code yJx4a65c_size_8abf5 cJx4a65c_size_8abf5 1 (some .int), Cond.fieldLink RJx4a65c 48 "java/util/ArrayList" "size" "I", Cond.methodLink RX2 65 yJx4a65c_get_915e3, Cond.instanceMethod yJx4a65c_get_915e3, Cond.selects RJx4a65c yJx4a65c_get_915e3 yJx4a65c_get_915e3, Cond.code yJx4a65c_get_915e3 cJx4a65c_get_915e3 2 (some (.object "java/lang/Object")), Cond.methodLink RJx4a65c 118 yJ15_checkIndex_7cf53, Cond.static yJ15_checkIndex_7cf53, Cond.initialized RJ15, Cond.code yJ15_checkIndex_7cf53 cJ15_checkIndex_7cf53 2 (some .int), Cond.methodLink RJ15 105 yJ3_checkIndex_8e157]
def wsX2_isCut_r2 : List Cond := [Cond.static yJ3_checkIndex_8e157, Cond.initialized RJ3, Cond.code yJ3_checkIndex_8e157 cJ3_checkIndex_8e157 3 (some .int), Cond.methodLink RJx4a65c 123 yJx4a65c_elementData_915e3, Cond.instanceMethod yJx4a65c_elementData_915e3, Cond.selects RJx4a65c yJx4a65c_elementData_915e3 yJx4a65c_elementData_915e3, Cond.code yJx4a65c_elementData_915e3 cJx4a65c_elementData_915e3 2 (some (.object "java/lang/Object")), Cond.fieldLink RJx4a65c 9 "java/util/ArrayList" "elementData" "[Ljava/lang/Object;"]
def wsX2_isCut : List Cond := .code yX2_isCut cX2_isCut 2 (some .boolean) :: ((wsX2_isCut_r1 ++ wsX2_isCut_r2) ++ wsX00 ++ wsX20 ++ wsJx4a65c0 ++ (vx_atS RX2 155 "java/lang/IndexOutOfBoundsException" ["java/lang/RuntimeException", "java/lang/Exception"]).filter goodWord)
def wsX2_takes_r1 : List Cond := [Cond.methodLink RX2 54 yX2_feederOf, Cond.instanceMethod yX2_feederOf, Cond.selects RX2 yX2_feederOf yX2_feederOf, Cond.initialized RX2, Cond.code yX2_feederOf cX2_feederOf 2 (some (.object "Shedwheel$Feeder")), Cond.classLink RX2 151 "java/lang/IndexOutOfBoundsException", Cond.initialized "java/lang/IndexOutOfBoundsException", Cond.fieldLink RX2 10 "Shedwheel" "told" "Ljava/util/ArrayList;", Cond.classLink RX2 45 "Shedwheel$Feeder", Cond.methodLink RX2 34 yJx4a65c_size_8abf5, Cond.instanceMethod yJx4a65c_size_8abf5, Cond.selects RJx4a65c yJx4a65c_size_8abf5 yJx4a65c_size_8abf5, Cond.initialized RJx4a65c, Cond.code yJx4a65c_size_8abf5 cJx4a65c_size_8abf5 1 (some .int), Cond.fieldLink RJx4a65c 48 "java/util/ArrayList" "size" "I", Cond.methodLink RX2 65 yJx4a65c_get_915e3, Cond.instanceMethod yJx4a65c_get_915e3, Cond.selects RJx4a65c yJx4a65c_get_915e3 yJx4a65c_get_915e3, Cond.code yJx4a65c_get_915e3 cJx4a65c_get_915e3 2 (some (.object "java/lang/Object")), Cond.methodLink RJx4a65c 118 yJ15_checkIndex_7cf53, Cond.static yJ15_checkIndex_7cf53, Cond.initialized RJ15, Cond.code yJ15_checkIndex_7cf53 cJ15_checkIndex_7cf53 2 (some .int), Cond.methodLink RJ15 105 yJ3_checkIndex_8e157]
def wsX2_takes_r2 : List Cond := [Cond.static yJ3_checkIndex_8e157, Cond.initialized RJ3, Cond.code yJ3_checkIndex_8e157 cJ3_checkIndex_8e157 3 (some .int), Cond.methodLink RJx4a65c 123 yJx4a65c_elementData_915e3, Cond.instanceMethod yJx4a65c_elementData_915e3, Cond.selects RJx4a65c yJx4a65c_elementData_915e3 yJx4a65c_elementData_915e3, Cond.code yJx4a65c_elementData_915e3 cJx4a65c_elementData_915e3 2 (some (.object "java/lang/Object")), Cond.fieldLink RJx4a65c 9 "java/util/ArrayList" "elementData" "[Ljava/lang/Object;", Cond.instanceMethod yX0_taken, Cond.initialized RX0, Cond.selects RX0 yX0_taken yX0_taken, Cond.code yX0_taken cX0_taken 1 (some .int), Cond.fieldLink RX0 9 "Shedwheel$Feeder" "off" "Z", Cond.fieldLink RX0 22 "Shedwheel$Feeder" "coldPart" "I", Cond.methodLink RX0 34 yX0_withCold, Cond.instanceMethod yX0_withCold, Cond.selects RX0 yX0_withCold yX0_withCold, Cond.code yX0_withCold cX0_withCold 2 (some .int), Cond.fieldLink RX0 25 "Shedwheel$Feeder" "megawatts" "I"]
def wsX2_takes : List Cond := .code yX2_takes cX2_takes 2 (some .int) :: ((wsX2_takes_r1 ++ wsX2_takes_r2) ++ wsX20 ++ wsJx4a65c0 ++ wsX00 ++ (vx_atS RX2 155 "java/lang/IndexOutOfBoundsException" ["java/lang/RuntimeException", "java/lang/Exception"]).filter goodWord)
def wsX2_cold_r1 : List Cond := [Cond.methodLink RX2 54 yX2_feederOf, Cond.instanceMethod yX2_feederOf, Cond.selects RX2 yX2_feederOf yX2_feederOf, Cond.initialized RX2, Cond.code yX2_feederOf cX2_feederOf 2 (some (.object "Shedwheel$Feeder")), Cond.classLink RX2 151 "java/lang/IndexOutOfBoundsException", Cond.initialized "java/lang/IndexOutOfBoundsException", Cond.fieldLink RX2 10 "Shedwheel" "told" "Ljava/util/ArrayList;", Cond.classLink RX2 45 "Shedwheel$Feeder", Cond.methodLink RX2 34 yJx4a65c_size_8abf5, Cond.instanceMethod yJx4a65c_size_8abf5, Cond.selects RJx4a65c yJx4a65c_size_8abf5 yJx4a65c_size_8abf5, Cond.initialized RJx4a65c, Cond.code yJx4a65c_size_8abf5 cJx4a65c_size_8abf5 1 (some .int), Cond.fieldLink RJx4a65c 48 "java/util/ArrayList" "size" "I", Cond.methodLink RX2 65 yJx4a65c_get_915e3, Cond.instanceMethod yJx4a65c_get_915e3, Cond.selects RJx4a65c yJx4a65c_get_915e3 yJx4a65c_get_915e3, Cond.code yJx4a65c_get_915e3 cJx4a65c_get_915e3 2 (some (.object "java/lang/Object")), Cond.methodLink RJx4a65c 118 yJ15_checkIndex_7cf53, Cond.static yJ15_checkIndex_7cf53, Cond.initialized RJ15, Cond.code yJ15_checkIndex_7cf53 cJ15_checkIndex_7cf53 2 (some .int), Cond.methodLink RJ15 105 yJ3_checkIndex_8e157]
def wsX2_cold_r2 : List Cond := [Cond.static yJ3_checkIndex_8e157, Cond.initialized RJ3, Cond.code yJ3_checkIndex_8e157 cJ3_checkIndex_8e157 3 (some .int), Cond.methodLink RJx4a65c 123 yJx4a65c_elementData_915e3, Cond.instanceMethod yJx4a65c_elementData_915e3, Cond.selects RJx4a65c yJx4a65c_elementData_915e3 yJx4a65c_elementData_915e3, Cond.code yJx4a65c_elementData_915e3 cJx4a65c_elementData_915e3 2 (some (.object "java/lang/Object")), Cond.fieldLink RJx4a65c 9 "java/util/ArrayList" "elementData" "[Ljava/lang/Object;"]
def wsX2_cold : List Cond := .code yX2_cold cX2_cold 2 (some .int) :: ((wsX2_cold_r1 ++ wsX2_cold_r2) ++ wsX00 ++ wsX20 ++ wsJx4a65c0 ++ (vx_atS RX2 155 "java/lang/IndexOutOfBoundsException" ["java/lang/RuntimeException", "java/lang/Exception"]).filter goodWord)
def wsX2_hours_r1 : List Cond := [Cond.methodLink RX2 54 yX2_feederOf, Cond.instanceMethod yX2_feederOf, Cond.selects RX2 yX2_feederOf yX2_feederOf, Cond.initialized RX2, Cond.code yX2_feederOf cX2_feederOf 2 (some (.object "Shedwheel$Feeder")), Cond.classLink RX2 151 "java/lang/IndexOutOfBoundsException", Cond.initialized "java/lang/IndexOutOfBoundsException", Cond.fieldLink RX2 10 "Shedwheel" "told" "Ljava/util/ArrayList;", Cond.classLink RX2 45 "Shedwheel$Feeder", Cond.methodLink RX2 34 yJx4a65c_size_8abf5, Cond.instanceMethod yJx4a65c_size_8abf5, Cond.selects RJx4a65c yJx4a65c_size_8abf5 yJx4a65c_size_8abf5, Cond.initialized RJx4a65c, Cond.code yJx4a65c_size_8abf5 cJx4a65c_size_8abf5 1 (some .int), Cond.fieldLink RJx4a65c 48 "java/util/ArrayList" "size" "I", Cond.methodLink RX2 65 yJx4a65c_get_915e3, Cond.instanceMethod yJx4a65c_get_915e3, Cond.selects RJx4a65c yJx4a65c_get_915e3 yJx4a65c_get_915e3, Cond.code yJx4a65c_get_915e3 cJx4a65c_get_915e3 2 (some (.object "java/lang/Object")), Cond.methodLink RJx4a65c 118 yJ15_checkIndex_7cf53, Cond.static yJ15_checkIndex_7cf53, Cond.initialized RJ15, Cond.code yJ15_checkIndex_7cf53 cJ15_checkIndex_7cf53 2 (some .int), Cond.methodLink RJ15 105 yJ3_checkIndex_8e157]
def wsX2_hours_r2 : List Cond := [Cond.static yJ3_checkIndex_8e157, Cond.initialized RJ3, Cond.code yJ3_checkIndex_8e157 cJ3_checkIndex_8e157 3 (some .int), Cond.methodLink RJx4a65c 123 yJx4a65c_elementData_915e3, Cond.instanceMethod yJx4a65c_elementData_915e3, Cond.selects RJx4a65c yJx4a65c_elementData_915e3 yJx4a65c_elementData_915e3, Cond.code yJx4a65c_elementData_915e3 cJx4a65c_elementData_915e3 2 (some (.object "java/lang/Object")), Cond.fieldLink RJx4a65c 9 "java/util/ArrayList" "elementData" "[Ljava/lang/Object;"]
def wsX2_hours : List Cond := .code yX2_hours cX2_hours 2 (some .int) :: ((wsX2_hours_r1 ++ wsX2_hours_r2) ++ wsX00 ++ wsX20 ++ wsJx4a65c0 ++ (vx_atS RX2 155 "java/lang/IndexOutOfBoundsException" ["java/lang/RuntimeException", "java/lang/Exception"]).filter goodWord)
def wsX2_load_r1 : List Cond := [Cond.fieldLink RX2 10 "Shedwheel" "told" "Ljava/util/ArrayList;", Cond.classLink RX2 45 "Shedwheel$Feeder", Cond.methodLink RX2 34 yJx4a65c_size_8abf5, Cond.instanceMethod yJx4a65c_size_8abf5, Cond.selects RJx4a65c yJx4a65c_size_8abf5 yJx4a65c_size_8abf5, Cond.initialized RJx4a65c, Cond.code yJx4a65c_size_8abf5 cJx4a65c_size_8abf5 1 (some .int), Cond.fieldLink RJx4a65c 48 "java/util/ArrayList" "size" "I", Cond.methodLink RX2 65 yJx4a65c_get_915e3, Cond.instanceMethod yJx4a65c_get_915e3, Cond.selects RJx4a65c yJx4a65c_get_915e3 yJx4a65c_get_915e3, Cond.code yJx4a65c_get_915e3 cJx4a65c_get_915e3 2 (some (.object "java/lang/Object")), Cond.methodLink RJx4a65c 118 yJ15_checkIndex_7cf53, Cond.static yJ15_checkIndex_7cf53, Cond.initialized RJ15, Cond.code yJ15_checkIndex_7cf53 cJ15_checkIndex_7cf53 2 (some .int), Cond.methodLink RJ15 105 yJ3_checkIndex_8e157, Cond.static yJ3_checkIndex_8e157, Cond.initialized RJ3, Cond.code yJ3_checkIndex_8e157 cJ3_checkIndex_8e157 3 (some .int), Cond.methodLink RJx4a65c 123 yJx4a65c_elementData_915e3, Cond.instanceMethod yJx4a65c_elementData_915e3, Cond.selects RJx4a65c yJx4a65c_elementData_915e3 yJx4a65c_elementData_915e3, Cond.code yJx4a65c_elementData_915e3 cJx4a65c_elementData_915e3 2 (some (.object "java/lang/Object"))]
def wsX2_load_r2 : List Cond := [Cond.fieldLink RJx4a65c 9 "java/util/ArrayList" "elementData" "[Ljava/lang/Object;", Cond.instanceMethod yX0_taken, Cond.initialized RX0, Cond.selects RX0 yX0_taken yX0_taken, Cond.code yX0_taken cX0_taken 1 (some .int), Cond.fieldLink RX0 9 "Shedwheel$Feeder" "off" "Z", Cond.fieldLink RX0 22 "Shedwheel$Feeder" "coldPart" "I", Cond.methodLink RX0 34 yX0_withCold, Cond.instanceMethod yX0_withCold, Cond.selects RX0 yX0_withCold yX0_withCold, Cond.code yX0_withCold cX0_withCold 2 (some .int), Cond.fieldLink RX0 25 "Shedwheel$Feeder" "megawatts" "I"]
def wsX2_load : List Cond := .code yX2_load cX2_load 3 (some .int) :: ((wsX2_load_r1 ++ wsX2_load_r2) ++ wsX20 ++ wsJx4a65c0 ++ wsX00)
def wsX2_choice_r1 : List Cond := [Cond.methodLink RX2 30 yX2_requireWithin, Cond.static yX2_requireWithin, Cond.initialized RX2, Cond.code yX2_requireWithin cX2_requireWithin 3 none, Cond.classLink RX2 146 "java/lang/IllegalArgumentException", Cond.initialized "java/lang/IllegalArgumentException", Cond.methodLink RX2 73 yX2_chosenFor, Cond.instanceMethod yX2_chosenFor, Cond.selects RX2 yX2_chosenFor yX2_chosenFor, Cond.code yX2_chosenFor cX2_chosenFor 2 (some .int), Cond.fieldLink RX2 19 "Shedwheel" "search" "LShedwheel$Search;", Cond.methodLink RX2 132 yX2_prepareSearch, Cond.instanceMethod yX2_prepareSearch, Cond.selects RX2 yX2_prepareSearch yX2_prepareSearch, Cond.code yX2_prepareSearch cX2_prepareSearch 4 none, Cond.fieldLink RX2 27 "Shedwheel" "slackNow" "I", Cond.fieldLink RX2 10 "Shedwheel" "told" "Ljava/util/ArrayList;", Cond.classLink RX2 45 "Shedwheel$Feeder", Cond.instanceMethod yX1_begin, Cond.initialized RX1, Cond.selects RX1 yX1_begin yX1_begin, Cond.code yX1_begin cX1_begin 3 none, Cond.fieldLink RX1 28 "Shedwheel$Search" "shortfall" "I", Cond.fieldLink RX1 31 "Shedwheel$Search" "nearLimit" "I"]
def wsX2_choice_r2 : List Cond := [Cond.fieldLink RX1 24 "Shedwheel$Search" "count" "I", Cond.fieldLink RX1 34 "Shedwheel$Search" "bestSet" "I", Cond.methodLink RX2 34 yJx4a65c_size_8abf5, Cond.instanceMethod yJx4a65c_size_8abf5, Cond.selects RJx4a65c yJx4a65c_size_8abf5 yJx4a65c_size_8abf5, Cond.initialized RJx4a65c, Cond.code yJx4a65c_size_8abf5 cJx4a65c_size_8abf5 1 (some .int), Cond.fieldLink RJx4a65c 48 "java/util/ArrayList" "size" "I", Cond.methodLink RX2 65 yJx4a65c_get_915e3, Cond.instanceMethod yJx4a65c_get_915e3, Cond.selects RJx4a65c yJx4a65c_get_915e3 yJx4a65c_get_915e3, Cond.code yJx4a65c_get_915e3 cJx4a65c_get_915e3 2 (some (.object "java/lang/Object")), Cond.methodLink RJx4a65c 118 yJ15_checkIndex_7cf53, Cond.static yJ15_checkIndex_7cf53, Cond.initialized RJ15, Cond.code yJ15_checkIndex_7cf53 cJ15_checkIndex_7cf53 2 (some .int), Cond.methodLink RJ15 105 yJ3_checkIndex_8e157, Cond.static yJ3_checkIndex_8e157, Cond.initialized RJ3, Cond.code yJ3_checkIndex_8e157 cJ3_checkIndex_8e157 3 (some .int), Cond.methodLink RJx4a65c 123 yJx4a65c_elementData_915e3, Cond.instanceMethod yJx4a65c_elementData_915e3, Cond.selects RJx4a65c yJx4a65c_elementData_915e3 yJx4a65c_elementData_915e3, Cond.code yJx4a65c_elementData_915e3 cJx4a65c_elementData_915e3 2 (some (.object "java/lang/Object"))]
def wsX2_choice_r3 : List Cond := [Cond.fieldLink RJx4a65c 9 "java/util/ArrayList" "elementData" "[Ljava/lang/Object;", Cond.instanceMethod yX0_mayBeCut, Cond.initialized RX0, Cond.selects RX0 yX0_mayBeCut yX0_mayBeCut, Cond.code yX0_mayBeCut cX0_mayBeCut 1 (some .boolean), Cond.fieldLink RX0 9 "Shedwheel$Feeder" "off" "Z", Cond.fieldLink RX0 28 "Shedwheel$Feeder" "critical" "Z", Cond.instanceMethod yX0_taken, Cond.selects RX0 yX0_taken yX0_taken, Cond.code yX0_taken cX0_taken 1 (some .int), Cond.fieldLink RX0 22 "Shedwheel$Feeder" "coldPart" "I", Cond.methodLink RX0 34 yX0_withCold, Cond.instanceMethod yX0_withCold, Cond.selects RX0 yX0_withCold yX0_withCold, Cond.code yX0_withCold cX0_withCold 2 (some .int), Cond.fieldLink RX0 25 "Shedwheel$Feeder" "megawatts" "I", Cond.instanceMethod yX1_offer, Cond.selects RX1 yX1_offer yX1_offer, Cond.code yX1_offer cX1_offer 4 none, Cond.fieldLink RX1 9 "Shedwheel$Search" "bits" "[I", Cond.fieldLink RX1 15 "Shedwheel$Search" "takenBy" "[I", Cond.fieldLink RX1 18 "Shedwheel$Search" "hoursOf" "[I", Cond.fieldLink RX1 21 "Shedwheel$Search" "takenBelow" "[I", Cond.instanceMethod yX1_bestByWalking]
def wsX2_choice_r4 : List Cond := [Cond.selects RX1 yX1_bestByWalking yX1_bestByWalking, Cond.code yX1_bestByWalking cX1_bestByWalking 1 (some .int), Cond.methodLink RX1 43 yX1_walk, Cond.static yX1_walk, Cond.code yX1_walk cX1_walk 6 none, Cond.methodLink RX1 47 yX1_weigh, Cond.instanceMethod yX1_weigh, Cond.selects RX1 yX1_weigh yX1_weigh, Cond.code yX1_weigh cX1_weigh 4 none, Cond.fieldLink RX1 37 "Shedwheel$Search" "bestTaken" "I", Cond.fieldLink RX1 40 "Shedwheel$Search" "bestHours" "I", Cond.methodLink RX1 59 yX1_isBetter, Cond.instanceMethod yX1_isBetter, Cond.selects RX1 yX1_isBetter yX1_isBetter, Cond.code yX1_isBetter cX1_isBetter 5 (some .boolean)]
def wsX2_choice : List Cond := .code yX2_choice cX2_choice 2 (some .int) :: ((wsX2_choice_r1 ++ (wsX2_choice_r2 ++ (wsX2_choice_r3 ++ wsX2_choice_r4))) ++ wsX20 ++ wsX00 ++ wsX10 ++ wsJx4a65c0 ++ (vx_atS RX2 150 "java/lang/IllegalArgumentException" ["java/lang/RuntimeException", "java/lang/Exception"]).filter goodWord)
def wsX2_loadRestored_r1 : List Cond := [Cond.fieldLink RX2 10 "Shedwheel" "told" "Ljava/util/ArrayList;", Cond.classLink RX2 45 "Shedwheel$Feeder", Cond.methodLink RX2 34 yJx4a65c_size_8abf5, Cond.instanceMethod yJx4a65c_size_8abf5, Cond.selects RJx4a65c yJx4a65c_size_8abf5 yJx4a65c_size_8abf5, Cond.initialized RJx4a65c, Cond.code yJx4a65c_size_8abf5 cJx4a65c_size_8abf5 1 (some .int), Cond.fieldLink RJx4a65c 48 "java/util/ArrayList" "size" "I", Cond.methodLink RX2 65 yJx4a65c_get_915e3, Cond.instanceMethod yJx4a65c_get_915e3, Cond.selects RJx4a65c yJx4a65c_get_915e3 yJx4a65c_get_915e3, Cond.code yJx4a65c_get_915e3 cJx4a65c_get_915e3 2 (some (.object "java/lang/Object")), Cond.methodLink RJx4a65c 118 yJ15_checkIndex_7cf53, Cond.static yJ15_checkIndex_7cf53, Cond.initialized RJ15, Cond.code yJ15_checkIndex_7cf53 cJ15_checkIndex_7cf53 2 (some .int), Cond.methodLink RJ15 105 yJ3_checkIndex_8e157, Cond.static yJ3_checkIndex_8e157, Cond.initialized RJ3, Cond.code yJ3_checkIndex_8e157 cJ3_checkIndex_8e157 3 (some .int), Cond.methodLink RJx4a65c 123 yJx4a65c_elementData_915e3, Cond.instanceMethod yJx4a65c_elementData_915e3, Cond.selects RJx4a65c yJx4a65c_elementData_915e3 yJx4a65c_elementData_915e3, Cond.code yJx4a65c_elementData_915e3 cJx4a65c_elementData_915e3 2 (some (.object "java/lang/Object"))]
def wsX2_loadRestored_r2 : List Cond := [Cond.fieldLink RJx4a65c 9 "java/util/ArrayList" "elementData" "[Ljava/lang/Object;", Cond.instanceMethod yX0_takenIfRestored, Cond.initialized RX0, Cond.selects RX0 yX0_takenIfRestored yX0_takenIfRestored, Cond.code yX0_takenIfRestored cX0_takenIfRestored 1 (some .int), Cond.fieldLink RX0 9 "Shedwheel$Feeder" "off" "Z", Cond.methodLink RX0 38 yX0_coldOnReturn, Cond.instanceMethod yX0_coldOnReturn, Cond.selects RX0 yX0_coldOnReturn yX0_coldOnReturn, Cond.code yX0_coldOnReturn cX0_coldOnReturn 1 (some .int), Cond.fieldLink RX0 19 "Shedwheel$Feeder" "hoursOfThisCut" "I", Cond.methodLink RX0 45 Lib.Math.min.name, Cond.static Lib.Math.min.name, Cond.initialized "java/lang/Math", Cond.code Lib.Math.min.name Lib.Math.min.code 2 (some .int), Cond.methodLink RX0 34 yX0_withCold, Cond.instanceMethod yX0_withCold, Cond.selects RX0 yX0_withCold yX0_withCold, Cond.code yX0_withCold cX0_withCold 2 (some .int), Cond.fieldLink RX0 25 "Shedwheel$Feeder" "megawatts" "I", Cond.methodLink RX0 42 yX0_taken, Cond.instanceMethod yX0_taken, Cond.selects RX0 yX0_taken yX0_taken, Cond.code yX0_taken cX0_taken 1 (some .int)]
def wsX2_loadRestored_r3 : List Cond := [Cond.fieldLink RX0 22 "Shedwheel$Feeder" "coldPart" "I"]
def wsX2_loadRestored : List Cond := .code yX2_loadRestored cX2_loadRestored 3 (some .int) :: ((wsX2_loadRestored_r1 ++ (wsX2_loadRestored_r2 ++ wsX2_loadRestored_r3)) ++ wsX20 ++ wsJx4a65c0 ++ wsX00)
def wsJ9_max_7cf53 : List Cond := .code yJ9_max_7cf53 cJ9_max_7cf53 2 (some .int) :: ([])
def wsJ9_min_7cf53 : List Cond := .code yJ9_min_7cf53 cJ9_min_7cf53 2 (some .int) :: ([])
def wsL_cell : List Cond := .code yL_cell cL_cell 2 (some .int) :: ([.constant RL 7 (1026267105)])
def wsL_at : List Cond := .code yL_at cL_at 2 (some .int) :: ([])
def wsL_out_r1 : List Cond := [Cond.methodLink RL 8 yX2_feeders, Cond.instanceMethod yX2_feeders, Cond.selects RX2 yX2_feeders yX2_feeders, Cond.initialized RX2, Cond.code yX2_feeders cX2_feeders 1 (some .int), Cond.fieldLink RX2 10 "Shedwheel" "told" "Ljava/util/ArrayList;", Cond.methodLink RX2 34 yJx4a65c_size_8abf5, Cond.instanceMethod yJx4a65c_size_8abf5, Cond.selects RJx4a65c yJx4a65c_size_8abf5 yJx4a65c_size_8abf5, Cond.initialized RJx4a65c, Cond.code yJx4a65c_size_8abf5 cJx4a65c_size_8abf5 1 (some .int), Cond.fieldLink RJx4a65c 48 "java/util/ArrayList" "size" "I", Cond.methodLink RL 14 yX2_isCut, Cond.instanceMethod yX2_isCut, Cond.selects RX2 yX2_isCut yX2_isCut, Cond.code yX2_isCut cX2_isCut 2 (some .boolean), Cond.methodLink RX2 54 yX2_feederOf, Cond.instanceMethod yX2_feederOf, Cond.selects RX2 yX2_feederOf yX2_feederOf, Cond.code yX2_feederOf cX2_feederOf 2 (some (.object "Shedwheel$Feeder")), Cond.classLink RX2 151 "java/lang/IndexOutOfBoundsException", Cond.initialized "java/lang/IndexOutOfBoundsException", Cond.classLink RX2 45 "Shedwheel$Feeder", Cond.methodLink RX2 65 yJx4a65c_get_915e3]
def wsL_out_r2 : List Cond := [Cond.instanceMethod yJx4a65c_get_915e3, Cond.selects RJx4a65c yJx4a65c_get_915e3 yJx4a65c_get_915e3, Cond.code yJx4a65c_get_915e3 cJx4a65c_get_915e3 2 (some (.object "java/lang/Object")), Cond.methodLink RJx4a65c 118 yJ15_checkIndex_7cf53, Cond.static yJ15_checkIndex_7cf53, Cond.initialized RJ15, Cond.code yJ15_checkIndex_7cf53 cJ15_checkIndex_7cf53 2 (some .int), Cond.methodLink RJ15 105 yJ3_checkIndex_8e157, Cond.static yJ3_checkIndex_8e157, Cond.initialized RJ3, Cond.code yJ3_checkIndex_8e157 cJ3_checkIndex_8e157 3 (some .int), Cond.methodLink RJx4a65c 123 yJx4a65c_elementData_915e3, Cond.instanceMethod yJx4a65c_elementData_915e3, Cond.selects RJx4a65c yJx4a65c_elementData_915e3 yJx4a65c_elementData_915e3, Cond.code yJx4a65c_elementData_915e3 cJx4a65c_elementData_915e3 2 (some (.object "java/lang/Object")), Cond.fieldLink RJx4a65c 9 "java/util/ArrayList" "elementData" "[Ljava/lang/Object;"]
def wsL_out : List Cond := .code yL_out cL_out 3 (some .int) :: ((wsL_out_r1 ++ wsL_out_r2) ++ wsX20 ++ wsJx4a65c0 ++ wsX00 ++ (vx_atS RX2 155 "java/lang/IndexOutOfBoundsException" ["java/lang/RuntimeException", "java/lang/Exception"]).filter goodWord)
def wsL_taken_r1 : List Cond := [Cond.methodLink RL 8 yX2_feeders, Cond.instanceMethod yX2_feeders, Cond.selects RX2 yX2_feeders yX2_feeders, Cond.initialized RX2, Cond.code yX2_feeders cX2_feeders 1 (some .int), Cond.fieldLink RX2 10 "Shedwheel" "told" "Ljava/util/ArrayList;", Cond.methodLink RX2 34 yJx4a65c_size_8abf5, Cond.instanceMethod yJx4a65c_size_8abf5, Cond.selects RJx4a65c yJx4a65c_size_8abf5 yJx4a65c_size_8abf5, Cond.initialized RJx4a65c, Cond.code yJx4a65c_size_8abf5 cJx4a65c_size_8abf5 1 (some .int), Cond.fieldLink RJx4a65c 48 "java/util/ArrayList" "size" "I", Cond.methodLink RL 18 yX2_takes, Cond.instanceMethod yX2_takes, Cond.selects RX2 yX2_takes yX2_takes, Cond.code yX2_takes cX2_takes 2 (some .int), Cond.methodLink RX2 54 yX2_feederOf, Cond.instanceMethod yX2_feederOf, Cond.selects RX2 yX2_feederOf yX2_feederOf, Cond.code yX2_feederOf cX2_feederOf 2 (some (.object "Shedwheel$Feeder")), Cond.classLink RX2 151 "java/lang/IndexOutOfBoundsException", Cond.initialized "java/lang/IndexOutOfBoundsException", Cond.classLink RX2 45 "Shedwheel$Feeder", Cond.methodLink RX2 65 yJx4a65c_get_915e3]
def wsL_taken_r2 : List Cond := [Cond.instanceMethod yJx4a65c_get_915e3, Cond.selects RJx4a65c yJx4a65c_get_915e3 yJx4a65c_get_915e3, Cond.code yJx4a65c_get_915e3 cJx4a65c_get_915e3 2 (some (.object "java/lang/Object")), Cond.methodLink RJx4a65c 118 yJ15_checkIndex_7cf53, Cond.static yJ15_checkIndex_7cf53, Cond.initialized RJ15, Cond.code yJ15_checkIndex_7cf53 cJ15_checkIndex_7cf53 2 (some .int), Cond.methodLink RJ15 105 yJ3_checkIndex_8e157, Cond.static yJ3_checkIndex_8e157, Cond.initialized RJ3, Cond.code yJ3_checkIndex_8e157 cJ3_checkIndex_8e157 3 (some .int), Cond.methodLink RJx4a65c 123 yJx4a65c_elementData_915e3, Cond.instanceMethod yJx4a65c_elementData_915e3, Cond.selects RJx4a65c yJx4a65c_elementData_915e3 yJx4a65c_elementData_915e3, Cond.code yJx4a65c_elementData_915e3 cJx4a65c_elementData_915e3 2 (some (.object "java/lang/Object")), Cond.fieldLink RJx4a65c 9 "java/util/ArrayList" "elementData" "[Ljava/lang/Object;", Cond.instanceMethod yX0_taken, Cond.initialized RX0, Cond.selects RX0 yX0_taken yX0_taken, Cond.code yX0_taken cX0_taken 1 (some .int), Cond.fieldLink RX0 9 "Shedwheel$Feeder" "off" "Z", Cond.fieldLink RX0 22 "Shedwheel$Feeder" "coldPart" "I", Cond.methodLink RX0 34 yX0_withCold, Cond.instanceMethod yX0_withCold]
def wsL_taken_r3 : List Cond := [Cond.selects RX0 yX0_withCold yX0_withCold, Cond.code yX0_withCold cX0_withCold 2 (some .int), Cond.fieldLink RX0 25 "Shedwheel$Feeder" "megawatts" "I"]
def wsL_taken : List Cond := .code yL_taken cL_taken 4 (some .int) :: ((wsL_taken_r1 ++ (wsL_taken_r2 ++ wsL_taken_r3)) ++ wsX20 ++ wsJx4a65c0 ++ wsX00 ++ (vx_atS RX2 155 "java/lang/IndexOutOfBoundsException" ["java/lang/RuntimeException", "java/lang/Exception"]).filter goodWord)
def wsL_relieves_r1 : List Cond := [Cond.methodLink RL 22 yL_out, Cond.static yL_out, Cond.initialized RL, Cond.code yL_out cL_out 3 (some .int), Cond.methodLink RL 8 yX2_feeders, Cond.instanceMethod yX2_feeders, Cond.selects RX2 yX2_feeders yX2_feeders, Cond.initialized RX2, Cond.code yX2_feeders cX2_feeders 1 (some .int), Cond.fieldLink RX2 10 "Shedwheel" "told" "Ljava/util/ArrayList;", Cond.methodLink RX2 34 yJx4a65c_size_8abf5, Cond.instanceMethod yJx4a65c_size_8abf5, Cond.selects RJx4a65c yJx4a65c_size_8abf5 yJx4a65c_size_8abf5, Cond.initialized RJx4a65c, Cond.code yJx4a65c_size_8abf5 cJx4a65c_size_8abf5 1 (some .int), Cond.fieldLink RJx4a65c 48 "java/util/ArrayList" "size" "I", Cond.methodLink RL 14 yX2_isCut, Cond.instanceMethod yX2_isCut, Cond.selects RX2 yX2_isCut yX2_isCut, Cond.code yX2_isCut cX2_isCut 2 (some .boolean), Cond.methodLink RX2 54 yX2_feederOf, Cond.instanceMethod yX2_feederOf, Cond.selects RX2 yX2_feederOf yX2_feederOf, Cond.code yX2_feederOf cX2_feederOf 2 (some (.object "Shedwheel$Feeder"))]
def wsL_relieves_r2 : List Cond := [Cond.classLink RX2 151 "java/lang/IndexOutOfBoundsException", Cond.initialized "java/lang/IndexOutOfBoundsException", Cond.classLink RX2 45 "Shedwheel$Feeder", Cond.methodLink RX2 65 yJx4a65c_get_915e3, Cond.instanceMethod yJx4a65c_get_915e3, Cond.selects RJx4a65c yJx4a65c_get_915e3 yJx4a65c_get_915e3, Cond.code yJx4a65c_get_915e3 cJx4a65c_get_915e3 2 (some (.object "java/lang/Object")), Cond.methodLink RJx4a65c 118 yJ15_checkIndex_7cf53, Cond.static yJ15_checkIndex_7cf53, Cond.initialized RJ15, Cond.code yJ15_checkIndex_7cf53 cJ15_checkIndex_7cf53 2 (some .int), Cond.methodLink RJ15 105 yJ3_checkIndex_8e157, Cond.static yJ3_checkIndex_8e157, Cond.initialized RJ3, Cond.code yJ3_checkIndex_8e157 cJ3_checkIndex_8e157 3 (some .int), Cond.methodLink RJx4a65c 123 yJx4a65c_elementData_915e3, Cond.instanceMethod yJx4a65c_elementData_915e3, Cond.selects RJx4a65c yJx4a65c_elementData_915e3 yJx4a65c_elementData_915e3, Cond.code yJx4a65c_elementData_915e3 cJx4a65c_elementData_915e3 2 (some (.object "java/lang/Object")), Cond.fieldLink RJx4a65c 9 "java/util/ArrayList" "elementData" "[Ljava/lang/Object;", Cond.methodLink RL 28 yX2_load, Cond.instanceMethod yX2_load, Cond.selects RX2 yX2_load yX2_load, Cond.code yX2_load cX2_load 3 (some .int)]
def wsL_relieves_r3 : List Cond := [Cond.instanceMethod yX0_taken, Cond.initialized RX0, Cond.selects RX0 yX0_taken yX0_taken, Cond.code yX0_taken cX0_taken 1 (some .int), Cond.fieldLink RX0 9 "Shedwheel$Feeder" "off" "Z", Cond.fieldLink RX0 22 "Shedwheel$Feeder" "coldPart" "I", Cond.methodLink RX0 34 yX0_withCold, Cond.instanceMethod yX0_withCold, Cond.selects RX0 yX0_withCold yX0_withCold, Cond.code yX0_withCold cX0_withCold 2 (some .int), Cond.fieldLink RX0 25 "Shedwheel$Feeder" "megawatts" "I", Cond.methodLink RL 31 yX2_choice, Cond.instanceMethod yX2_choice, Cond.selects RX2 yX2_choice yX2_choice, Cond.code yX2_choice cX2_choice 2 (some .int), Cond.methodLink RX2 30 yX2_requireWithin, Cond.static yX2_requireWithin, Cond.code yX2_requireWithin cX2_requireWithin 3 none, Cond.classLink RX2 146 "java/lang/IllegalArgumentException", Cond.initialized "java/lang/IllegalArgumentException", Cond.methodLink RX2 73 yX2_chosenFor, Cond.instanceMethod yX2_chosenFor, Cond.selects RX2 yX2_chosenFor yX2_chosenFor, Cond.code yX2_chosenFor cX2_chosenFor 2 (some .int)]
def wsL_relieves_r4 : List Cond := [Cond.fieldLink RX2 19 "Shedwheel" "search" "LShedwheel$Search;", Cond.methodLink RX2 132 yX2_prepareSearch, Cond.instanceMethod yX2_prepareSearch, Cond.selects RX2 yX2_prepareSearch yX2_prepareSearch, Cond.code yX2_prepareSearch cX2_prepareSearch 4 none, Cond.fieldLink RX2 27 "Shedwheel" "slackNow" "I", Cond.instanceMethod yX1_begin, Cond.initialized RX1, Cond.selects RX1 yX1_begin yX1_begin, Cond.code yX1_begin cX1_begin 3 none, Cond.fieldLink RX1 28 "Shedwheel$Search" "shortfall" "I", Cond.fieldLink RX1 31 "Shedwheel$Search" "nearLimit" "I", Cond.fieldLink RX1 24 "Shedwheel$Search" "count" "I", Cond.fieldLink RX1 34 "Shedwheel$Search" "bestSet" "I", Cond.instanceMethod yX0_mayBeCut, Cond.selects RX0 yX0_mayBeCut yX0_mayBeCut, Cond.code yX0_mayBeCut cX0_mayBeCut 1 (some .boolean), Cond.fieldLink RX0 28 "Shedwheel$Feeder" "critical" "Z", Cond.instanceMethod yX1_offer, Cond.selects RX1 yX1_offer yX1_offer, Cond.code yX1_offer cX1_offer 4 none, Cond.fieldLink RX1 9 "Shedwheel$Search" "bits" "[I", Cond.fieldLink RX1 15 "Shedwheel$Search" "takenBy" "[I", Cond.fieldLink RX1 18 "Shedwheel$Search" "hoursOf" "[I"]
def wsL_relieves_r5 : List Cond := [Cond.fieldLink RX1 21 "Shedwheel$Search" "takenBelow" "[I", Cond.instanceMethod yX1_bestByWalking, Cond.selects RX1 yX1_bestByWalking yX1_bestByWalking, Cond.code yX1_bestByWalking cX1_bestByWalking 1 (some .int), Cond.methodLink RX1 43 yX1_walk, Cond.static yX1_walk, Cond.code yX1_walk cX1_walk 6 none, Cond.methodLink RX1 47 yX1_weigh, Cond.instanceMethod yX1_weigh, Cond.selects RX1 yX1_weigh yX1_weigh, Cond.code yX1_weigh cX1_weigh 4 none, Cond.fieldLink RX1 37 "Shedwheel$Search" "bestTaken" "I", Cond.fieldLink RX1 40 "Shedwheel$Search" "bestHours" "I", Cond.methodLink RX1 59 yX1_isBetter, Cond.instanceMethod yX1_isBetter, Cond.selects RX1 yX1_isBetter yX1_isBetter, Cond.code yX1_isBetter cX1_isBetter 5 (some .boolean), Cond.methodLink RL 34 yL_taken, Cond.static yL_taken, Cond.code yL_taken cL_taken 4 (some .int), Cond.methodLink RL 18 yX2_takes, Cond.instanceMethod yX2_takes, Cond.selects RX2 yX2_takes yX2_takes, Cond.code yX2_takes cX2_takes 2 (some .int)]
def wsL_relieves_r6 : List Cond := [Cond.methodLink RL 38 yX2_relieve, Cond.instanceMethod yX2_relieve, Cond.selects RX2 yX2_relieve yX2_relieve, Cond.code yX2_relieve cX2_relieve 5 (some .int), Cond.classLink RX2 77 "java/util/NoSuchElementException", Cond.initialized "java/util/NoSuchElementException", Cond.methodLink RX2 82 yX2_holds, Cond.static yX2_holds, Cond.code yX2_holds cX2_holds 2 (some .boolean), Cond.instanceMethod yX0_switchOff, Cond.selects RX0 yX0_switchOff yX0_switchOff, Cond.code yX0_switchOff cX0_switchOff 2 (some .int), Cond.fieldLink RX0 19 "Shedwheel$Feeder" "hoursOfThisCut" "I", Cond.methodLink RX0 42 yX0_taken]
def wsL_relieves : List Cond := .code yL_relieves cL_relieves 7 (some .boolean) :: ((wsL_relieves_r1 ++ (wsL_relieves_r2 ++ (wsL_relieves_r3 ++ (wsL_relieves_r4 ++ (wsL_relieves_r5 ++ wsL_relieves_r6))))) ++ wsX20 ++ wsJx4a65c0 ++ wsX00 ++ wsX10 ++ (vx_atS RX2 155 "java/lang/IndexOutOfBoundsException" ["java/lang/RuntimeException", "java/lang/Exception"]).filter goodWord ++ (vx_atS RX2 150 "java/lang/IllegalArgumentException" ["java/lang/RuntimeException", "java/lang/Exception"]).filter goodWord ++ (zx_at RX2 81).filter goodWord)
def wsL_turns_r1 : List Cond := [Cond.methodLink RL 22 yL_out, Cond.static yL_out, Cond.initialized RL, Cond.code yL_out cL_out 3 (some .int), Cond.methodLink RL 8 yX2_feeders, Cond.instanceMethod yX2_feeders, Cond.selects RX2 yX2_feeders yX2_feeders, Cond.initialized RX2, Cond.code yX2_feeders cX2_feeders 1 (some .int), Cond.fieldLink RX2 10 "Shedwheel" "told" "Ljava/util/ArrayList;", Cond.methodLink RX2 34 yJx4a65c_size_8abf5, Cond.instanceMethod yJx4a65c_size_8abf5, Cond.selects RJx4a65c yJx4a65c_size_8abf5 yJx4a65c_size_8abf5, Cond.initialized RJx4a65c, Cond.code yJx4a65c_size_8abf5 cJx4a65c_size_8abf5 1 (some .int), Cond.fieldLink RJx4a65c 48 "java/util/ArrayList" "size" "I", Cond.methodLink RL 14 yX2_isCut, Cond.instanceMethod yX2_isCut, Cond.selects RX2 yX2_isCut yX2_isCut, Cond.code yX2_isCut cX2_isCut 2 (some .boolean), Cond.methodLink RX2 54 yX2_feederOf, Cond.instanceMethod yX2_feederOf, Cond.selects RX2 yX2_feederOf yX2_feederOf, Cond.code yX2_feederOf cX2_feederOf 2 (some (.object "Shedwheel$Feeder"))]
def wsL_turns_r2 : List Cond := [Cond.classLink RX2 151 "java/lang/IndexOutOfBoundsException", Cond.initialized "java/lang/IndexOutOfBoundsException", Cond.classLink RX2 45 "Shedwheel$Feeder", Cond.methodLink RX2 65 yJx4a65c_get_915e3, Cond.instanceMethod yJx4a65c_get_915e3, Cond.selects RJx4a65c yJx4a65c_get_915e3 yJx4a65c_get_915e3, Cond.code yJx4a65c_get_915e3 cJx4a65c_get_915e3 2 (some (.object "java/lang/Object")), Cond.methodLink RJx4a65c 118 yJ15_checkIndex_7cf53, Cond.static yJ15_checkIndex_7cf53, Cond.initialized RJ15, Cond.code yJ15_checkIndex_7cf53 cJ15_checkIndex_7cf53 2 (some .int), Cond.methodLink RJ15 105 yJ3_checkIndex_8e157, Cond.static yJ3_checkIndex_8e157, Cond.initialized RJ3, Cond.code yJ3_checkIndex_8e157 cJ3_checkIndex_8e157 3 (some .int), Cond.methodLink RJx4a65c 123 yJx4a65c_elementData_915e3, Cond.instanceMethod yJx4a65c_elementData_915e3, Cond.selects RJx4a65c yJx4a65c_elementData_915e3 yJx4a65c_elementData_915e3, Cond.code yJx4a65c_elementData_915e3 cJx4a65c_elementData_915e3 2 (some (.object "java/lang/Object")), Cond.fieldLink RJx4a65c 9 "java/util/ArrayList" "elementData" "[Ljava/lang/Object;", Cond.methodLink RL 41 yX2_loadRestored, Cond.instanceMethod yX2_loadRestored, Cond.selects RX2 yX2_loadRestored yX2_loadRestored, Cond.code yX2_loadRestored cX2_loadRestored 3 (some .int)]
def wsL_turns_r3 : List Cond := [Cond.instanceMethod yX0_takenIfRestored, Cond.initialized RX0, Cond.selects RX0 yX0_takenIfRestored yX0_takenIfRestored, Cond.code yX0_takenIfRestored cX0_takenIfRestored 1 (some .int), Cond.fieldLink RX0 9 "Shedwheel$Feeder" "off" "Z", Cond.methodLink RX0 38 yX0_coldOnReturn, Cond.instanceMethod yX0_coldOnReturn, Cond.selects RX0 yX0_coldOnReturn yX0_coldOnReturn, Cond.code yX0_coldOnReturn cX0_coldOnReturn 1 (some .int), Cond.fieldLink RX0 19 "Shedwheel$Feeder" "hoursOfThisCut" "I", Cond.methodLink RX0 45 Lib.Math.min.name, Cond.static Lib.Math.min.name, Cond.initialized "java/lang/Math", Cond.code Lib.Math.min.name Lib.Math.min.code 2 (some .int), Cond.methodLink RX0 34 yX0_withCold, Cond.instanceMethod yX0_withCold, Cond.selects RX0 yX0_withCold yX0_withCold, Cond.code yX0_withCold cX0_withCold 2 (some .int), Cond.fieldLink RX0 25 "Shedwheel$Feeder" "megawatts" "I", Cond.methodLink RX0 42 yX0_taken, Cond.instanceMethod yX0_taken, Cond.selects RX0 yX0_taken yX0_taken, Cond.code yX0_taken cX0_taken 1 (some .int), Cond.fieldLink RX0 22 "Shedwheel$Feeder" "coldPart" "I"]
def wsL_turns_r4 : List Cond := [Cond.methodLink RL 28 yX2_load, Cond.instanceMethod yX2_load, Cond.selects RX2 yX2_load yX2_load, Cond.code yX2_load cX2_load 3 (some .int), Cond.methodLink RL 31 yX2_choice, Cond.instanceMethod yX2_choice, Cond.selects RX2 yX2_choice yX2_choice, Cond.code yX2_choice cX2_choice 2 (some .int), Cond.methodLink RX2 30 yX2_requireWithin, Cond.static yX2_requireWithin, Cond.code yX2_requireWithin cX2_requireWithin 3 none, Cond.classLink RX2 146 "java/lang/IllegalArgumentException", Cond.initialized "java/lang/IllegalArgumentException", Cond.methodLink RX2 73 yX2_chosenFor, Cond.instanceMethod yX2_chosenFor, Cond.selects RX2 yX2_chosenFor yX2_chosenFor, Cond.code yX2_chosenFor cX2_chosenFor 2 (some .int), Cond.fieldLink RX2 19 "Shedwheel" "search" "LShedwheel$Search;", Cond.methodLink RX2 132 yX2_prepareSearch, Cond.instanceMethod yX2_prepareSearch, Cond.selects RX2 yX2_prepareSearch yX2_prepareSearch, Cond.code yX2_prepareSearch cX2_prepareSearch 4 none, Cond.fieldLink RX2 27 "Shedwheel" "slackNow" "I", Cond.instanceMethod yX1_begin]
def wsL_turns_r5 : List Cond := [Cond.initialized RX1, Cond.selects RX1 yX1_begin yX1_begin, Cond.code yX1_begin cX1_begin 3 none, Cond.fieldLink RX1 28 "Shedwheel$Search" "shortfall" "I", Cond.fieldLink RX1 31 "Shedwheel$Search" "nearLimit" "I", Cond.fieldLink RX1 24 "Shedwheel$Search" "count" "I", Cond.fieldLink RX1 34 "Shedwheel$Search" "bestSet" "I", Cond.instanceMethod yX0_mayBeCut, Cond.selects RX0 yX0_mayBeCut yX0_mayBeCut, Cond.code yX0_mayBeCut cX0_mayBeCut 1 (some .boolean), Cond.fieldLink RX0 28 "Shedwheel$Feeder" "critical" "Z", Cond.instanceMethod yX1_offer, Cond.selects RX1 yX1_offer yX1_offer, Cond.code yX1_offer cX1_offer 4 none, Cond.fieldLink RX1 9 "Shedwheel$Search" "bits" "[I", Cond.fieldLink RX1 15 "Shedwheel$Search" "takenBy" "[I", Cond.fieldLink RX1 18 "Shedwheel$Search" "hoursOf" "[I", Cond.fieldLink RX1 21 "Shedwheel$Search" "takenBelow" "[I", Cond.instanceMethod yX1_bestByWalking, Cond.selects RX1 yX1_bestByWalking yX1_bestByWalking, Cond.code yX1_bestByWalking cX1_bestByWalking 1 (some .int), Cond.methodLink RX1 43 yX1_walk, Cond.static yX1_walk, Cond.code yX1_walk cX1_walk 6 none]
def wsL_turns_r6 : List Cond := [Cond.methodLink RX1 47 yX1_weigh, Cond.instanceMethod yX1_weigh, Cond.selects RX1 yX1_weigh yX1_weigh, Cond.code yX1_weigh cX1_weigh 4 none, Cond.fieldLink RX1 37 "Shedwheel$Search" "bestTaken" "I", Cond.fieldLink RX1 40 "Shedwheel$Search" "bestHours" "I", Cond.methodLink RX1 59 yX1_isBetter, Cond.instanceMethod yX1_isBetter, Cond.selects RX1 yX1_isBetter yX1_isBetter, Cond.code yX1_isBetter cX1_isBetter 5 (some .boolean), Cond.methodLink RL 44 yX2_hours, Cond.instanceMethod yX2_hours, Cond.selects RX2 yX2_hours yX2_hours, Cond.code yX2_hours cX2_hours 2 (some .int), Cond.methodLink RL 47 yX2_rotate, Cond.instanceMethod yX2_rotate, Cond.selects RX2 yX2_rotate yX2_rotate, Cond.code yX2_rotate cX2_rotate 3 (some .int), Cond.classLink RX2 38 "java/lang/IllegalStateException", Cond.initialized "java/lang/IllegalStateException", Cond.classLink RX2 77 "java/util/NoSuchElementException", Cond.initialized "java/util/NoSuchElementException", Cond.methodLink RX2 89 yX2_takenByReturning, Cond.instanceMethod yX2_takenByReturning]
def wsL_turns_r7 : List Cond := [Cond.selects RX2 yX2_takenByReturning yX2_takenByReturning, Cond.code yX2_takenByReturning cX2_takenByReturning 4 (some .int), Cond.instanceMethod yX0_mayReturn, Cond.selects RX0 yX0_mayReturn yX0_mayReturn, Cond.code yX0_mayReturn cX0_mayReturn 1 (some .boolean), Cond.methodLink RX2 94 yX2_swapFor, Cond.instanceMethod yX2_swapFor, Cond.selects RX2 yX2_swapFor yX2_swapFor, Cond.code yX2_swapFor cX2_swapFor 5 (some .int), Cond.instanceMethod yX0_switchOn, Cond.selects RX0 yX0_switchOn yX0_switchOn, Cond.code yX0_switchOn cX0_switchOn 1 none, Cond.methodLink RX2 82 yX2_holds, Cond.static yX2_holds, Cond.code yX2_holds cX2_holds 2 (some .boolean), Cond.instanceMethod yX0_switchOff, Cond.selects RX0 yX0_switchOff yX0_switchOff, Cond.code yX0_switchOff cX0_switchOff 2 (some .int)]
def wsL_turns : List Cond := .code yL_turns cL_turns 12 (some .boolean) :: ((wsL_turns_r1 ++ (wsL_turns_r2 ++ (wsL_turns_r3 ++ (wsL_turns_r4 ++ (wsL_turns_r5 ++ (wsL_turns_r6 ++ wsL_turns_r7)))))) ++ wsX20 ++ wsJx4a65c0 ++ wsX00 ++ wsX10 ++ (vx_atS RX2 155 "java/lang/IndexOutOfBoundsException" ["java/lang/RuntimeException", "java/lang/Exception"]).filter goodWord ++ (vx_atS RX2 150 "java/lang/IllegalArgumentException" ["java/lang/RuntimeException", "java/lang/Exception"]).filter goodWord ++ (vx_atS RX2 42 "java/lang/IllegalStateException" ["java/lang/RuntimeException", "java/lang/Exception"]).filter goodWord ++ (zx_at RX2 81).filter goodWord)
def wsL_noneCold_r1 : List Cond := [Cond.methodLink RL 8 yX2_feeders, Cond.instanceMethod yX2_feeders, Cond.selects RX2 yX2_feeders yX2_feeders, Cond.initialized RX2, Cond.code yX2_feeders cX2_feeders 1 (some .int), Cond.fieldLink RX2 10 "Shedwheel" "told" "Ljava/util/ArrayList;", Cond.methodLink RX2 34 yJx4a65c_size_8abf5, Cond.instanceMethod yJx4a65c_size_8abf5, Cond.selects RJx4a65c yJx4a65c_size_8abf5 yJx4a65c_size_8abf5, Cond.initialized RJx4a65c, Cond.code yJx4a65c_size_8abf5 cJx4a65c_size_8abf5 1 (some .int), Cond.fieldLink RJx4a65c 48 "java/util/ArrayList" "size" "I", Cond.methodLink RL 56 yX2_cold, Cond.instanceMethod yX2_cold, Cond.selects RX2 yX2_cold yX2_cold, Cond.code yX2_cold cX2_cold 2 (some .int), Cond.methodLink RX2 54 yX2_feederOf, Cond.instanceMethod yX2_feederOf, Cond.selects RX2 yX2_feederOf yX2_feederOf, Cond.code yX2_feederOf cX2_feederOf 2 (some (.object "Shedwheel$Feeder")), Cond.classLink RX2 151 "java/lang/IndexOutOfBoundsException", Cond.initialized "java/lang/IndexOutOfBoundsException", Cond.classLink RX2 45 "Shedwheel$Feeder", Cond.methodLink RX2 65 yJx4a65c_get_915e3]
def wsL_noneCold_r2 : List Cond := [Cond.instanceMethod yJx4a65c_get_915e3, Cond.selects RJx4a65c yJx4a65c_get_915e3 yJx4a65c_get_915e3, Cond.code yJx4a65c_get_915e3 cJx4a65c_get_915e3 2 (some (.object "java/lang/Object")), Cond.methodLink RJx4a65c 118 yJ15_checkIndex_7cf53, Cond.static yJ15_checkIndex_7cf53, Cond.initialized RJ15, Cond.code yJ15_checkIndex_7cf53 cJ15_checkIndex_7cf53 2 (some .int), Cond.methodLink RJ15 105 yJ3_checkIndex_8e157, Cond.static yJ3_checkIndex_8e157, Cond.initialized RJ3, Cond.code yJ3_checkIndex_8e157 cJ3_checkIndex_8e157 3 (some .int), Cond.methodLink RJx4a65c 123 yJx4a65c_elementData_915e3, Cond.instanceMethod yJx4a65c_elementData_915e3, Cond.selects RJx4a65c yJx4a65c_elementData_915e3 yJx4a65c_elementData_915e3, Cond.code yJx4a65c_elementData_915e3 cJx4a65c_elementData_915e3 2 (some (.object "java/lang/Object")), Cond.fieldLink RJx4a65c 9 "java/util/ArrayList" "elementData" "[Ljava/lang/Object;"]
def wsL_noneCold : List Cond := .code yL_noneCold cL_noneCold 2 (some .boolean) :: ((wsL_noneCold_r1 ++ wsL_noneCold_r2) ++ wsX20 ++ wsJx4a65c0 ++ wsX00 ++ (vx_atS RX2 155 "java/lang/IndexOutOfBoundsException" ["java/lang/RuntimeException", "java/lang/Exception"]).filter goodWord)
def wsL_passes_r1 : List Cond := [Cond.methodLink RL 22 yL_out, Cond.static yL_out, Cond.initialized RL, Cond.code yL_out cL_out 3 (some .int), Cond.methodLink RL 8 yX2_feeders, Cond.instanceMethod yX2_feeders, Cond.selects RX2 yX2_feeders yX2_feeders, Cond.initialized RX2, Cond.code yX2_feeders cX2_feeders 1 (some .int), Cond.fieldLink RX2 10 "Shedwheel" "told" "Ljava/util/ArrayList;", Cond.methodLink RX2 34 yJx4a65c_size_8abf5, Cond.instanceMethod yJx4a65c_size_8abf5, Cond.selects RJx4a65c yJx4a65c_size_8abf5 yJx4a65c_size_8abf5, Cond.initialized RJx4a65c, Cond.code yJx4a65c_size_8abf5 cJx4a65c_size_8abf5 1 (some .int), Cond.fieldLink RJx4a65c 48 "java/util/ArrayList" "size" "I", Cond.methodLink RL 14 yX2_isCut, Cond.instanceMethod yX2_isCut, Cond.selects RX2 yX2_isCut yX2_isCut, Cond.code yX2_isCut cX2_isCut 2 (some .boolean), Cond.methodLink RX2 54 yX2_feederOf, Cond.instanceMethod yX2_feederOf, Cond.selects RX2 yX2_feederOf yX2_feederOf, Cond.code yX2_feederOf cX2_feederOf 2 (some (.object "Shedwheel$Feeder"))]
def wsL_passes_r2 : List Cond := [Cond.classLink RX2 151 "java/lang/IndexOutOfBoundsException", Cond.initialized "java/lang/IndexOutOfBoundsException", Cond.classLink RX2 45 "Shedwheel$Feeder", Cond.methodLink RX2 65 yJx4a65c_get_915e3, Cond.instanceMethod yJx4a65c_get_915e3, Cond.selects RJx4a65c yJx4a65c_get_915e3 yJx4a65c_get_915e3, Cond.code yJx4a65c_get_915e3 cJx4a65c_get_915e3 2 (some (.object "java/lang/Object")), Cond.methodLink RJx4a65c 118 yJ15_checkIndex_7cf53, Cond.static yJ15_checkIndex_7cf53, Cond.initialized RJ15, Cond.code yJ15_checkIndex_7cf53 cJ15_checkIndex_7cf53 2 (some .int), Cond.methodLink RJ15 105 yJ3_checkIndex_8e157, Cond.static yJ3_checkIndex_8e157, Cond.initialized RJ3, Cond.code yJ3_checkIndex_8e157 cJ3_checkIndex_8e157 3 (some .int), Cond.methodLink RJx4a65c 123 yJx4a65c_elementData_915e3, Cond.instanceMethod yJx4a65c_elementData_915e3, Cond.selects RJx4a65c yJx4a65c_elementData_915e3 yJx4a65c_elementData_915e3, Cond.code yJx4a65c_elementData_915e3 cJx4a65c_elementData_915e3 2 (some (.object "java/lang/Object")), Cond.fieldLink RJx4a65c 9 "java/util/ArrayList" "elementData" "[Ljava/lang/Object;", Cond.methodLink RL 28 yX2_load, Cond.instanceMethod yX2_load, Cond.selects RX2 yX2_load yX2_load, Cond.code yX2_load cX2_load 3 (some .int)]
def wsL_passes_r3 : List Cond := [Cond.instanceMethod yX0_taken, Cond.initialized RX0, Cond.selects RX0 yX0_taken yX0_taken, Cond.code yX0_taken cX0_taken 1 (some .int), Cond.fieldLink RX0 9 "Shedwheel$Feeder" "off" "Z", Cond.fieldLink RX0 22 "Shedwheel$Feeder" "coldPart" "I", Cond.methodLink RX0 34 yX0_withCold, Cond.instanceMethod yX0_withCold, Cond.selects RX0 yX0_withCold yX0_withCold, Cond.code yX0_withCold cX0_withCold 2 (some .int), Cond.fieldLink RX0 25 "Shedwheel$Feeder" "megawatts" "I", Cond.methodLink RL 44 yX2_hours, Cond.instanceMethod yX2_hours, Cond.selects RX2 yX2_hours yX2_hours, Cond.code yX2_hours cX2_hours 2 (some .int), Cond.methodLink RL 50 yX2_hour, Cond.instanceMethod yX2_hour, Cond.selects RX2 yX2_hour yX2_hour, Cond.code yX2_hour cX2_hour 1 (some .int), Cond.fieldLink RX2 23 "Shedwheel" "now" "I", Cond.methodLink RL 53 yX2_pass, Cond.instanceMethod yX2_pass, Cond.selects RX2 yX2_pass yX2_pass, Cond.code yX2_pass cX2_pass 3 (some .int)]
def wsL_passes_r4 : List Cond := [Cond.methodLink RX2 30 yX2_requireWithin, Cond.static yX2_requireWithin, Cond.code yX2_requireWithin cX2_requireWithin 3 none, Cond.classLink RX2 146 "java/lang/IllegalArgumentException", Cond.initialized "java/lang/IllegalArgumentException", Cond.instanceMethod yX0_letPass, Cond.selects RX0 yX0_letPass yX0_letPass, Cond.code yX0_letPass cX0_letPass 2 none, Cond.fieldLink RX0 15 "Shedwheel$Feeder" "hoursOff" "I", Cond.fieldLink RX0 19 "Shedwheel$Feeder" "hoursOfThisCut" "I", Cond.methodLink RX0 51 Lib.Math.max.name, Cond.static Lib.Math.max.name, Cond.initialized "java/lang/Math", Cond.code Lib.Math.max.name Lib.Math.max.code 2 (some .int), Cond.methodLink RL 56 yX2_cold, Cond.instanceMethod yX2_cold, Cond.selects RX2 yX2_cold yX2_cold, Cond.code yX2_cold cX2_cold 2 (some .int), Cond.methodLink RL 18 yX2_takes, Cond.instanceMethod yX2_takes, Cond.selects RX2 yX2_takes yX2_takes, Cond.code yX2_takes cX2_takes 2 (some .int), Cond.methodLink RL 41 yX2_loadRestored, Cond.instanceMethod yX2_loadRestored]
def wsL_passes_r5 : List Cond := [Cond.selects RX2 yX2_loadRestored yX2_loadRestored, Cond.code yX2_loadRestored cX2_loadRestored 3 (some .int), Cond.instanceMethod yX0_takenIfRestored, Cond.selects RX0 yX0_takenIfRestored yX0_takenIfRestored, Cond.code yX0_takenIfRestored cX0_takenIfRestored 1 (some .int), Cond.methodLink RX0 38 yX0_coldOnReturn, Cond.instanceMethod yX0_coldOnReturn, Cond.selects RX0 yX0_coldOnReturn yX0_coldOnReturn, Cond.code yX0_coldOnReturn cX0_coldOnReturn 1 (some .int), Cond.methodLink RX0 45 Lib.Math.min.name, Cond.static Lib.Math.min.name, Cond.code Lib.Math.min.name Lib.Math.min.code 2 (some .int), Cond.methodLink RX0 42 yX0_taken, Cond.methodLink RL 59 yL_noneCold, Cond.static yL_noneCold, Cond.code yL_noneCold cL_noneCold 2 (some .boolean)]
def wsL_passes : List Cond := .code yL_passes cL_passes 8 (some .boolean) :: ((wsL_passes_r1 ++ (wsL_passes_r2 ++ (wsL_passes_r3 ++ (wsL_passes_r4 ++ wsL_passes_r5)))) ++ wsX20 ++ wsJx4a65c0 ++ wsX00 ++ (vx_atS RX2 155 "java/lang/IndexOutOfBoundsException" ["java/lang/RuntimeException", "java/lang/Exception"]).filter goodWord ++ (vx_atS RX2 150 "java/lang/IllegalArgumentException" ["java/lang/RuntimeException", "java/lang/Exception"]).filter goodWord)
def wsL_law0_r1 : List Cond := [Cond.classLink RL 9 RX2, Cond.instantiable RX2 4, Cond.initialized RX2, Cond.constant RL 68 (2147483647), Cond.methodLink RL 63 yX2_init, Cond.instanceMethod yX2_init, Cond.code yX2_init cX2_init 1 none, Cond.methodLink RX2 1 objectInit, Cond.instanceMethod objectInit, Cond.code objectInit ⟨#[0xb1]⟩ 1 none, Cond.classLink RX2 7 RJx4a65c, Cond.instantiable RJx4a65c 3, Cond.initialized RJx4a65c, Cond.fieldLink RX2 10 "Shedwheel" "told" "Ljava/util/ArrayList;", Cond.classLink RX2 16 RX1, Cond.instantiable RX1 10, Cond.initialized RX1, Cond.fieldLink RX2 19 "Shedwheel" "search" "LShedwheel$Search;", Cond.fieldLink RX2 23 "Shedwheel" "now" "I", Cond.fieldLink RX2 27 "Shedwheel" "slackNow" "I", Cond.methodLink RX2 9 yJx4a65c_init_da8c8, Cond.instanceMethod yJx4a65c_init_da8c8, Cond.code yJx4a65c_init_da8c8 cJx4a65c_init_da8c8 1 none, Cond.fieldLink RJx4a65c 39 "java/util/ArrayList" "DEFAULTCAPACITY_EMPTY_ELEMENTDATA" "[Ljava/lang/Object;"]
def wsL_law0_r2 : List Cond := [Cond.fieldLink RJx4a65c 9 "java/util/ArrayList" "elementData" "[Ljava/lang/Object;", Cond.methodLink RJx4a65c 1 yJxc12de_init_da8c8, Cond.instanceMethod yJxc12de_init_da8c8, Cond.initialized RJxc12de, Cond.code yJxc12de_init_da8c8 cJxc12de_init_da8c8 1 none, Cond.fieldLink RJxc12de 7 "java/util/AbstractList" "modCount" "I", Cond.methodLink RJxc12de 1 yJxa1e45_init_da8c8, Cond.instanceMethod yJxa1e45_init_da8c8, Cond.initialized RJxa1e45, Cond.code yJxa1e45_init_da8c8 cJxa1e45_init_da8c8 1 none, Cond.methodLink RJxa1e45 1 objectInit, Cond.instanceMethod yX1_init, Cond.code yX1_init cX1_init 1 none, Cond.methodLink RX1 3 objectInit, Cond.arrayClass .int, Cond.fieldLink RX1 9 "Shedwheel$Search" "bits" "[I", Cond.fieldLink RX1 15 "Shedwheel$Search" "takenBy" "[I", Cond.fieldLink RX1 18 "Shedwheel$Search" "hoursOf" "[I", Cond.fieldLink RX1 21 "Shedwheel$Search" "takenBelow" "[I", Cond.fieldLink RX1 24 "Shedwheel$Search" "count" "I", Cond.fieldLink RX1 28 "Shedwheel$Search" "shortfall" "I", Cond.fieldLink RX1 31 "Shedwheel$Search" "nearLimit" "I", Cond.fieldLink RX1 34 "Shedwheel$Search" "bestSet" "I", Cond.fieldLink RX1 37 "Shedwheel$Search" "bestTaken" "I"]
def wsL_law0_r3 : List Cond := [Cond.fieldLink RX1 40 "Shedwheel$Search" "bestHours" "I", Cond.methodLink RL 64 yL_cell, Cond.static yL_cell, Cond.initialized RL, Cond.code yL_cell cL_cell 2 (some .int), Cond.constant RL 7 (1026267105), Cond.methodLink RL 8 yX2_feeders, Cond.instanceMethod yX2_feeders, Cond.selects RX2 yX2_feeders yX2_feeders, Cond.code yX2_feeders cX2_feeders 1 (some .int), Cond.methodLink RX2 34 yJx4a65c_size_8abf5, Cond.instanceMethod yJx4a65c_size_8abf5, Cond.selects RJx4a65c yJx4a65c_size_8abf5 yJx4a65c_size_8abf5, Cond.code yJx4a65c_size_8abf5 cJx4a65c_size_8abf5 1 (some .int), Cond.fieldLink RJx4a65c 48 "java/util/ArrayList" "size" "I", Cond.methodLink RL 69 yL_at, Cond.static yL_at, Cond.code yL_at cL_at 2 (some .int), Cond.methodLink RL 73 yX2_feeder, Cond.instanceMethod yX2_feeder, Cond.selects RX2 yX2_feeder yX2_feeder, Cond.code yX2_feeder cX2_feeder 4 (some .int), Cond.classLink RX2 38 "java/lang/IllegalStateException", Cond.initialized "java/lang/IllegalStateException"]
def wsL_law0_r4 : List Cond := [Cond.classLink RX2 45 RX0, Cond.instantiable RX0 7, Cond.initialized RX0, Cond.methodLink RX2 30 yX2_requireWithin, Cond.static yX2_requireWithin, Cond.code yX2_requireWithin cX2_requireWithin 3 none, Cond.classLink RX2 146 "java/lang/IllegalArgumentException", Cond.initialized "java/lang/IllegalArgumentException", Cond.instanceMethod yX0_init, Cond.code yX0_init cX0_init 4 none, Cond.methodLink RX0 3 objectInit, Cond.fieldLink RX0 9 "Shedwheel$Feeder" "off" "Z", Cond.fieldLink RX0 15 "Shedwheel$Feeder" "hoursOff" "I", Cond.fieldLink RX0 19 "Shedwheel$Feeder" "hoursOfThisCut" "I", Cond.fieldLink RX0 22 "Shedwheel$Feeder" "coldPart" "I", Cond.fieldLink RX0 25 "Shedwheel$Feeder" "megawatts" "I", Cond.fieldLink RX0 28 "Shedwheel$Feeder" "critical" "Z", Cond.fieldLink RX0 31 "Shedwheel$Feeder" "stage" "I", Cond.methodLink RX2 50 yJx4a65c_add_9ea2d, Cond.instanceMethod yJx4a65c_add_9ea2d, Cond.selects RJx4a65c yJx4a65c_add_9ea2d yJx4a65c_add_9ea2d, Cond.code yJx4a65c_add_9ea2d cJx4a65c_add_9ea2d 2 (some .boolean), Cond.fieldLink RJx4a65c 63 "java/util/ArrayList" "modCount" "I", Cond.sameField "java/util/ArrayList" "java/util/AbstractList" "modCount" "I"]
def wsL_law0_r5 : List Cond := [Cond.methodLink RJx4a65c 131 yJx4a65c_add_72be8, Cond.instanceMethod yJx4a65c_add_72be8, Cond.selects RJx4a65c yJx4a65c_add_72be8 yJx4a65c_add_72be8, Cond.code yJx4a65c_add_72be8 cJx4a65c_add_72be8 4 none, Cond.methodLink RJx4a65c 129 yJx4a65c_grow_d5877, Cond.instanceMethod yJx4a65c_grow_d5877, Cond.selects RJx4a65c yJx4a65c_grow_d5877 yJx4a65c_grow_d5877, Cond.code yJx4a65c_grow_d5877 cJx4a65c_grow_d5877 1 (some (.array (.object "java/lang/Object"))), Cond.methodLink RJx4a65c 69 yJx4a65c_grow_92f84, Cond.instanceMethod yJx4a65c_grow_92f84, Cond.selects RJx4a65c yJx4a65c_grow_92f84 yJx4a65c_grow_92f84, Cond.code yJx4a65c_grow_92f84 cJx4a65c_grow_92f84 4 (some (.array (.object "java/lang/Object"))), Cond.methodLink RJx4a65c 79 Lib.Math.max.name, Cond.static Lib.Math.max.name, Cond.initialized "java/lang/Math", Cond.code Lib.Math.max.name Lib.Math.max.code 2 (some .int), Cond.classLink RJx4a65c 7 "java/lang/Object", Cond.methodLink RJx4a65c 73 yJ8_newLength_cabcc, Cond.static yJ8_newLength_cabcc, Cond.initialized RJ8, Cond.code yJ8_newLength_cabcc cJ8_newLength_cabcc 4 (some .int), Cond.methodLink RJ8 194 Lib.Math.max.name, Cond.constant RJ8 200 (2147483639), Cond.methodLink RJ8 201 yJ8_hugeLength_7cf53]
def wsL_law0_r6 : List Cond := [Cond.static yJ8_hugeLength_7cf53, Cond.code yJ8_hugeLength_7cf53 cJ8_hugeLength_7cf53 3 (some .int), Cond.methodLink RJx4a65c 66 yJ7_copyOf_1904c, Cond.static yJ7_copyOf_1904c, Cond.initialized RJ7, Cond.code yJ7_copyOf_1904c cJ7_copyOf_1904c 2 (some (.array (.object "java/lang/Object"))), Cond.methodLink RJ7 86 ⟨"java/lang/Object", "getClass", "()Ljava/lang/Class;"⟩, Cond.selects "[Ljava/lang/Object;" ⟨"java/lang/Object", "getClass", "()Ljava/lang/Class;"⟩ ⟨"java/lang/Object", "getClass", "()Ljava/lang/Class;"⟩, Cond.instanceMethod ⟨"java/lang/Object", "getClass", "()Ljava/lang/Class;"⟩, Cond.native ⟨"java/lang/Object", "getClass", "()Ljava/lang/Class;"⟩, Cond.methodLink RJ7 300 yJ7_copyOf_6403c, Cond.static yJ7_copyOf_6403c, Cond.code yJ7_copyOf_6403c cJ7_copyOf_6403c 4 (some (.array (.object "java/lang/Object"))), Cond.classLink RJ7 110 "[Ljava/lang/Object;", Cond.classLink RJ7 2 "java/lang/Object", Cond.methodLink RJ7 304 Lib.Math.min.name, Cond.static Lib.Math.min.name, Cond.code Lib.Math.min.name Lib.Math.min.code 2 (some .int), Cond.methodLink RJ7 150 arraycopyName, Cond.native arraycopyName, Cond.static arraycopyName, Cond.initialized "java/lang/System", Cond.methodLink RL 77 yX2_setSlack, Cond.instanceMethod yX2_setSlack]
def wsL_law0_r7 : List Cond := [Cond.selects RX2 yX2_setSlack yX2_setSlack, Cond.code yX2_setSlack cX2_setSlack 3 (some .int), Cond.methodLink RL 28 yX2_load, Cond.instanceMethod yX2_load, Cond.selects RX2 yX2_load yX2_load, Cond.code yX2_load cX2_load 3 (some .int), Cond.classLink RX2 45 "Shedwheel$Feeder", Cond.methodLink RX2 65 yJx4a65c_get_915e3, Cond.instanceMethod yJx4a65c_get_915e3, Cond.selects RJx4a65c yJx4a65c_get_915e3 yJx4a65c_get_915e3, Cond.code yJx4a65c_get_915e3 cJx4a65c_get_915e3 2 (some (.object "java/lang/Object")), Cond.methodLink RJx4a65c 118 yJ15_checkIndex_7cf53, Cond.static yJ15_checkIndex_7cf53, Cond.initialized RJ15, Cond.code yJ15_checkIndex_7cf53 cJ15_checkIndex_7cf53 2 (some .int), Cond.methodLink RJ15 105 yJ3_checkIndex_8e157, Cond.static yJ3_checkIndex_8e157, Cond.initialized RJ3, Cond.code yJ3_checkIndex_8e157 cJ3_checkIndex_8e157 3 (some .int), Cond.methodLink RJx4a65c 123 yJx4a65c_elementData_915e3, Cond.instanceMethod yJx4a65c_elementData_915e3, Cond.selects RJx4a65c yJx4a65c_elementData_915e3 yJx4a65c_elementData_915e3, Cond.code yJx4a65c_elementData_915e3 cJx4a65c_elementData_915e3 2 (some (.object "java/lang/Object")), Cond.instanceMethod yX0_taken]
def wsL_law0_r8 : List Cond := [Cond.selects RX0 yX0_taken yX0_taken, Cond.code yX0_taken cX0_taken 1 (some .int), Cond.methodLink RX0 34 yX0_withCold, Cond.instanceMethod yX0_withCold, Cond.selects RX0 yX0_withCold yX0_withCold, Cond.code yX0_withCold cX0_withCold 2 (some .int), Cond.methodLink RL 80 yL_relieves, Cond.static yL_relieves, Cond.code yL_relieves cL_relieves 7 (some .boolean), Cond.methodLink RL 22 yL_out, Cond.static yL_out, Cond.code yL_out cL_out 3 (some .int), Cond.methodLink RL 14 yX2_isCut, Cond.instanceMethod yX2_isCut, Cond.selects RX2 yX2_isCut yX2_isCut, Cond.code yX2_isCut cX2_isCut 2 (some .boolean), Cond.methodLink RX2 54 yX2_feederOf, Cond.instanceMethod yX2_feederOf, Cond.selects RX2 yX2_feederOf yX2_feederOf, Cond.code yX2_feederOf cX2_feederOf 2 (some (.object "Shedwheel$Feeder")), Cond.classLink RX2 151 "java/lang/IndexOutOfBoundsException", Cond.initialized "java/lang/IndexOutOfBoundsException", Cond.methodLink RL 31 yX2_choice, Cond.instanceMethod yX2_choice]
def wsL_law0_r9 : List Cond := [Cond.selects RX2 yX2_choice yX2_choice, Cond.code yX2_choice cX2_choice 2 (some .int), Cond.methodLink RX2 73 yX2_chosenFor, Cond.instanceMethod yX2_chosenFor, Cond.selects RX2 yX2_chosenFor yX2_chosenFor, Cond.code yX2_chosenFor cX2_chosenFor 2 (some .int), Cond.methodLink RX2 132 yX2_prepareSearch, Cond.instanceMethod yX2_prepareSearch, Cond.selects RX2 yX2_prepareSearch yX2_prepareSearch, Cond.code yX2_prepareSearch cX2_prepareSearch 4 none, Cond.instanceMethod yX1_begin, Cond.selects RX1 yX1_begin yX1_begin, Cond.code yX1_begin cX1_begin 3 none, Cond.instanceMethod yX0_mayBeCut, Cond.selects RX0 yX0_mayBeCut yX0_mayBeCut, Cond.code yX0_mayBeCut cX0_mayBeCut 1 (some .boolean), Cond.instanceMethod yX1_offer, Cond.selects RX1 yX1_offer yX1_offer, Cond.code yX1_offer cX1_offer 4 none, Cond.instanceMethod yX1_bestByWalking, Cond.selects RX1 yX1_bestByWalking yX1_bestByWalking, Cond.code yX1_bestByWalking cX1_bestByWalking 1 (some .int), Cond.methodLink RX1 43 yX1_walk, Cond.static yX1_walk]
def wsL_law0_r10 : List Cond := [Cond.code yX1_walk cX1_walk 6 none, Cond.methodLink RX1 47 yX1_weigh, Cond.instanceMethod yX1_weigh, Cond.selects RX1 yX1_weigh yX1_weigh, Cond.code yX1_weigh cX1_weigh 4 none, Cond.methodLink RX1 59 yX1_isBetter, Cond.instanceMethod yX1_isBetter, Cond.selects RX1 yX1_isBetter yX1_isBetter, Cond.code yX1_isBetter cX1_isBetter 5 (some .boolean), Cond.methodLink RL 34 yL_taken, Cond.static yL_taken, Cond.code yL_taken cL_taken 4 (some .int), Cond.methodLink RL 18 yX2_takes, Cond.instanceMethod yX2_takes, Cond.selects RX2 yX2_takes yX2_takes, Cond.code yX2_takes cX2_takes 2 (some .int), Cond.methodLink RL 38 yX2_relieve, Cond.instanceMethod yX2_relieve, Cond.selects RX2 yX2_relieve yX2_relieve, Cond.code yX2_relieve cX2_relieve 5 (some .int), Cond.classLink RX2 77 "java/util/NoSuchElementException", Cond.initialized "java/util/NoSuchElementException", Cond.methodLink RX2 82 yX2_holds, Cond.static yX2_holds]
def wsL_law0_r11 : List Cond := [Cond.code yX2_holds cX2_holds 2 (some .boolean), Cond.instanceMethod yX0_switchOff, Cond.selects RX0 yX0_switchOff yX0_switchOff, Cond.code yX0_switchOff cX0_switchOff 2 (some .int), Cond.methodLink RX0 42 yX0_taken, Cond.methodLink RL 84 yL_passes, Cond.static yL_passes, Cond.code yL_passes cL_passes 8 (some .boolean), Cond.methodLink RL 44 yX2_hours, Cond.instanceMethod yX2_hours, Cond.selects RX2 yX2_hours yX2_hours, Cond.code yX2_hours cX2_hours 2 (some .int), Cond.methodLink RL 50 yX2_hour, Cond.instanceMethod yX2_hour, Cond.selects RX2 yX2_hour yX2_hour, Cond.code yX2_hour cX2_hour 1 (some .int), Cond.methodLink RL 53 yX2_pass, Cond.instanceMethod yX2_pass, Cond.selects RX2 yX2_pass yX2_pass, Cond.code yX2_pass cX2_pass 3 (some .int), Cond.instanceMethod yX0_letPass, Cond.selects RX0 yX0_letPass yX0_letPass, Cond.code yX0_letPass cX0_letPass 2 none, Cond.methodLink RX0 51 Lib.Math.max.name]
def wsL_law0_r12 : List Cond := [Cond.methodLink RL 56 yX2_cold, Cond.instanceMethod yX2_cold, Cond.selects RX2 yX2_cold yX2_cold, Cond.code yX2_cold cX2_cold 2 (some .int), Cond.methodLink RL 41 yX2_loadRestored, Cond.instanceMethod yX2_loadRestored, Cond.selects RX2 yX2_loadRestored yX2_loadRestored, Cond.code yX2_loadRestored cX2_loadRestored 3 (some .int), Cond.instanceMethod yX0_takenIfRestored, Cond.selects RX0 yX0_takenIfRestored yX0_takenIfRestored, Cond.code yX0_takenIfRestored cX0_takenIfRestored 1 (some .int), Cond.methodLink RX0 38 yX0_coldOnReturn, Cond.instanceMethod yX0_coldOnReturn, Cond.selects RX0 yX0_coldOnReturn yX0_coldOnReturn, Cond.code yX0_coldOnReturn cX0_coldOnReturn 1 (some .int), Cond.methodLink RX0 45 Lib.Math.min.name, Cond.methodLink RL 59 yL_noneCold, Cond.static yL_noneCold, Cond.code yL_noneCold cL_noneCold 2 (some .boolean), Cond.methodLink RL 88 yL_turns, Cond.static yL_turns, Cond.code yL_turns cL_turns 12 (some .boolean), Cond.methodLink RL 47 yX2_rotate, Cond.instanceMethod yX2_rotate]
def wsL_law0_r13 : List Cond := [Cond.selects RX2 yX2_rotate yX2_rotate, Cond.code yX2_rotate cX2_rotate 3 (some .int), Cond.methodLink RX2 89 yX2_takenByReturning, Cond.instanceMethod yX2_takenByReturning, Cond.selects RX2 yX2_takenByReturning yX2_takenByReturning, Cond.code yX2_takenByReturning cX2_takenByReturning 4 (some .int), Cond.instanceMethod yX0_mayReturn, Cond.selects RX0 yX0_mayReturn yX0_mayReturn, Cond.code yX0_mayReturn cX0_mayReturn 1 (some .boolean), Cond.methodLink RX2 94 yX2_swapFor, Cond.instanceMethod yX2_swapFor, Cond.selects RX2 yX2_swapFor yX2_swapFor, Cond.code yX2_swapFor cX2_swapFor 5 (some .int), Cond.instanceMethod yX0_switchOn, Cond.selects RX0 yX0_switchOn yX0_switchOn, Cond.code yX0_switchOn cX0_switchOn 1 none, Cond.methodLink RL 91 yX2_restore, Cond.instanceMethod yX2_restore, Cond.selects RX2 yX2_restore yX2_restore, Cond.code yX2_restore cX2_restore 3 (some .int)]
def wsL_law0 : List Cond := (wsL_law0_r1 ++ (wsL_law0_r2 ++ (wsL_law0_r3 ++ (wsL_law0_r4 ++ (wsL_law0_r5 ++ (wsL_law0_r6 ++ (wsL_law0_r7 ++ (wsL_law0_r8 ++ (wsL_law0_r9 ++ (wsL_law0_r10 ++ (wsL_law0_r11 ++ (wsL_law0_r12 ++ wsL_law0_r13)))))))))))) ++ wsX20 ++ wsJx4a65c0 ++ wsX10 ++ wsX00 ++ ([] : List Cond)
def wsL_law : List Cond := wsL_law0 ++ (vx_atS RX2 42 "java/lang/IllegalStateException" ["java/lang/RuntimeException", "java/lang/Exception"]).filter goodWord ++ (vx_atS RX2 150 "java/lang/IllegalArgumentException" ["java/lang/RuntimeException", "java/lang/Exception"]).filter goodWord ++ (vx_atS RX2 155 "java/lang/IndexOutOfBoundsException" ["java/lang/RuntimeException", "java/lang/Exception"]).filter goodWord ++ (zx_at RX2 81).filter goodWord
abbrev vwCl : List vw_C := [(RJx4a65c, TJx4a65c, 3), (RX0, TX0, 7), (RX1, TX1, 10), (RX2, TX2, 4)]
end
section
theorem dX0_init_0 : decode cX0_init 0 = .ok (.aload_n 0, 1) := by decide +kernel
theorem dX0_init_1 : decode cX0_init 1 = .ok (.invokespecial 3, 3) := by decide +kernel
theorem dX0_init_4 : decode cX0_init 4 = .ok (.aload_n 0, 1) := by decide +kernel
theorem dX0_init_5 : decode cX0_init 5 = .ok (.iconst 0, 1) := by decide +kernel
theorem dX0_init_6 : decode cX0_init 6 = .ok (.putfield 9, 3) := by decide +kernel
theorem dX0_init_9 : decode cX0_init 9 = .ok (.aload_n 0, 1) := by decide +kernel
theorem dX0_init_10 : decode cX0_init 10 = .ok (.iconst 0, 1) := by decide +kernel
theorem dX0_init_11 : decode cX0_init 11 = .ok (.putfield 15, 3) := by decide +kernel
theorem dX0_init_14 : decode cX0_init 14 = .ok (.aload_n 0, 1) := by decide +kernel
theorem dX0_init_15 : decode cX0_init 15 = .ok (.iconst 0, 1) := by decide +kernel
theorem dX0_init_16 : decode cX0_init 16 = .ok (.putfield 19, 3) := by decide +kernel
theorem dX0_init_19 : decode cX0_init 19 = .ok (.aload_n 0, 1) := by decide +kernel
theorem dX0_init_20 : decode cX0_init 20 = .ok (.iconst 0, 1) := by decide +kernel
theorem dX0_init_21 : decode cX0_init 21 = .ok (.putfield 22, 3) := by decide +kernel
theorem dX0_init_24 : decode cX0_init 24 = .ok (.aload_n 0, 1) := by decide +kernel
theorem dX0_init_25 : decode cX0_init 25 = .ok (.iload_n 1, 1) := by decide +kernel
theorem dX0_init_26 : decode cX0_init 26 = .ok (.putfield 25, 3) := by decide +kernel
theorem dX0_init_29 : decode cX0_init 29 = .ok (.aload_n 0, 1) := by decide +kernel
theorem dX0_init_30 : decode cX0_init 30 = .ok (.iload_n 2, 1) := by decide +kernel
theorem dX0_init_31 : decode cX0_init 31 = .ok (.putfield 28, 3) := by decide +kernel
theorem dX0_init_34 : decode cX0_init 34 = .ok (.aload_n 0, 1) := by decide +kernel
theorem dX0_init_35 : decode cX0_init 35 = .ok (.iload_n 3, 1) := by decide +kernel
theorem dX0_init_36 : decode cX0_init 36 = .ok (.putfield 31, 3) := by decide +kernel
theorem dX0_init_39 : decode cX0_init 39 = .ok (.return_, 1) := by decide +kernel
theorem dX0_mayBeCut_0 : decode cX0_mayBeCut 0 = .ok (.aload_n 0, 1) := by decide +kernel
theorem dX0_mayBeCut_1 : decode cX0_mayBeCut 1 = .ok (.getfield 9, 3) := by decide +kernel
theorem dX0_mayBeCut_4 : decode cX0_mayBeCut 4 = .ok (.ifCond .ne 14, 3) := by decide +kernel
theorem dX0_mayBeCut_7 : decode cX0_mayBeCut 7 = .ok (.aload_n 0, 1) := by decide +kernel
theorem dX0_mayBeCut_8 : decode cX0_mayBeCut 8 = .ok (.getfield 28, 3) := by decide +kernel
theorem dX0_mayBeCut_11 : decode cX0_mayBeCut 11 = .ok (.ifCond .ne 7, 3) := by decide +kernel
theorem dX0_mayBeCut_14 : decode cX0_mayBeCut 14 = .ok (.iconst 1, 1) := by decide +kernel
theorem dX0_mayBeCut_15 : decode cX0_mayBeCut 15 = .ok (.goto 4, 3) := by decide +kernel
theorem dX0_mayBeCut_18 : decode cX0_mayBeCut 18 = .ok (.iconst 0, 1) := by decide +kernel
theorem dX0_mayBeCut_19 : decode cX0_mayBeCut 19 = .ok (.ireturn, 1) := by decide +kernel
theorem dX0_mayReturn_0 : decode cX0_mayReturn 0 = .ok (.aload_n 0, 1) := by decide +kernel
theorem dX0_mayReturn_1 : decode cX0_mayReturn 1 = .ok (.getfield 9, 3) := by decide +kernel
theorem dX0_mayReturn_4 : decode cX0_mayReturn 4 = .ok (.ifCond .eq 14, 3) := by decide +kernel
theorem dX0_mayReturn_7 : decode cX0_mayReturn 7 = .ok (.aload_n 0, 1) := by decide +kernel
theorem dX0_mayReturn_8 : decode cX0_mayReturn 8 = .ok (.getfield 28, 3) := by decide +kernel
theorem dX0_mayReturn_11 : decode cX0_mayReturn 11 = .ok (.ifCond .ne 7, 3) := by decide +kernel
theorem dX0_mayReturn_14 : decode cX0_mayReturn 14 = .ok (.iconst 1, 1) := by decide +kernel
theorem dX0_mayReturn_15 : decode cX0_mayReturn 15 = .ok (.goto 4, 3) := by decide +kernel
theorem dX0_mayReturn_18 : decode cX0_mayReturn 18 = .ok (.iconst 0, 1) := by decide +kernel
theorem dX0_mayReturn_19 : decode cX0_mayReturn 19 = .ok (.ireturn, 1) := by decide +kernel
set_option maxRecDepth 20000 in
theorem ggX0_taken_X0_withCold : GoodIn wsX0_taken wsX0_withCold := goodIn_r _ [7, 8, 9, 10, 11, 12, 13, 14, 15] (by decide +kernel) (by decide +kernel)
set_option maxRecDepth 20000 in
theorem gX0_taken_X0_withCold : GoodIn wsX0_taken (wsV RX0 34 RX0 yX0_withCold wsX0_withCold) := goodIn_app (goodIn_of _ (by decide +kernel)) ggX0_taken_X0_withCold
theorem dX0_taken_0 : decode cX0_taken 0 = .ok (.aload_n 0, 1) := by decide +kernel
theorem dX0_taken_1 : decode cX0_taken 1 = .ok (.getfield 9, 3) := by decide +kernel
theorem dX0_taken_4 : decode cX0_taken 4 = .ok (.ifCond .eq 7, 3) := by decide +kernel
theorem dX0_taken_7 : decode cX0_taken 7 = .ok (.iconst 0, 1) := by decide +kernel
theorem dX0_taken_8 : decode cX0_taken 8 = .ok (.goto 11, 3) := by decide +kernel
theorem dX0_taken_11 : decode cX0_taken 11 = .ok (.aload_n 0, 1) := by decide +kernel
theorem dX0_taken_12 : decode cX0_taken 12 = .ok (.aload_n 0, 1) := by decide +kernel
theorem dX0_taken_13 : decode cX0_taken 13 = .ok (.getfield 22, 3) := by decide +kernel
theorem dX0_taken_16 : decode cX0_taken 16 = .ok (.invokevirtual 34, 3) := by decide +kernel
theorem dX0_taken_19 : decode cX0_taken 19 = .ok (.ireturn, 1) := by decide +kernel
set_option maxRecDepth 20000 in
theorem ggX0_takenIfRestored_X0_coldOnReturn : GoodIn wsX0_takenIfRestored wsX0_coldOnReturn := goodIn_r _ [6, 7, 8, 9, 10, 11, 22, 23, 24, 25, 26, 27, 28] (by decide +kernel) (by decide +kernel)
set_option maxRecDepth 20000 in
theorem gX0_takenIfRestored_X0_coldOnReturn : GoodIn wsX0_takenIfRestored (wsV RX0 38 RX0 yX0_coldOnReturn wsX0_coldOnReturn) := goodIn_app (goodIn_of _ (by decide +kernel)) ggX0_takenIfRestored_X0_coldOnReturn
set_option maxRecDepth 20000 in
theorem ggX0_takenIfRestored_X0_withCold : GoodIn wsX0_takenIfRestored wsX0_withCold := goodIn_r _ [15, 16, 22, 23, 24, 25, 26, 27, 28] (by decide +kernel) (by decide +kernel)
set_option maxRecDepth 20000 in
theorem gX0_takenIfRestored_X0_withCold : GoodIn wsX0_takenIfRestored (wsV RX0 34 RX0 yX0_withCold wsX0_withCold) := goodIn_app (goodIn_of _ (by decide +kernel)) ggX0_takenIfRestored_X0_withCold
set_option maxRecDepth 20000 in
theorem ggX0_takenIfRestored_X0_taken : GoodIn wsX0_takenIfRestored wsX0_taken := goodIn_r _ [20, 1, 21, 12, 13, 14, 5, 15, 16, 22, 23, 24, 25, 26, 27, 28] (by decide +kernel) (by decide +kernel)
set_option maxRecDepth 20000 in
theorem gX0_takenIfRestored_X0_taken : GoodIn wsX0_takenIfRestored (wsV RX0 42 RX0 yX0_taken wsX0_taken) := goodIn_app (goodIn_of _ (by decide +kernel)) ggX0_takenIfRestored_X0_taken
theorem dX0_takenIfRestored_0 : decode cX0_takenIfRestored 0 = .ok (.aload_n 0, 1) := by decide +kernel
theorem dX0_takenIfRestored_1 : decode cX0_takenIfRestored 1 = .ok (.getfield 9, 3) := by decide +kernel
theorem dX0_takenIfRestored_4 : decode cX0_takenIfRestored 4 = .ok (.ifCond .eq 14, 3) := by decide +kernel
theorem dX0_takenIfRestored_7 : decode cX0_takenIfRestored 7 = .ok (.aload_n 0, 1) := by decide +kernel
theorem dX0_takenIfRestored_8 : decode cX0_takenIfRestored 8 = .ok (.aload_n 0, 1) := by decide +kernel
theorem dX0_takenIfRestored_9 : decode cX0_takenIfRestored 9 = .ok (.invokevirtual 38, 3) := by decide +kernel
theorem dX0_takenIfRestored_12 : decode cX0_takenIfRestored 12 = .ok (.invokevirtual 34, 3) := by decide +kernel
theorem dX0_takenIfRestored_15 : decode cX0_takenIfRestored 15 = .ok (.goto 7, 3) := by decide +kernel
theorem dX0_takenIfRestored_18 : decode cX0_takenIfRestored 18 = .ok (.aload_n 0, 1) := by decide +kernel
theorem dX0_takenIfRestored_19 : decode cX0_takenIfRestored 19 = .ok (.invokevirtual 42, 3) := by decide +kernel
theorem dX0_takenIfRestored_22 : decode cX0_takenIfRestored 22 = .ok (.ireturn, 1) := by decide +kernel
theorem dX0_withCold_0 : decode cX0_withCold 0 = .ok (.aload_n 0, 1) := by decide +kernel
theorem dX0_withCold_1 : decode cX0_withCold 1 = .ok (.getfield 25, 3) := by decide +kernel
theorem dX0_withCold_4 : decode cX0_withCold 4 = .ok (.bipush 100, 2) := by decide +kernel
theorem dX0_withCold_6 : decode cX0_withCold 6 = .ok (.iload_n 1, 1) := by decide +kernel
theorem dX0_withCold_7 : decode cX0_withCold 7 = .ok (.iadd, 1) := by decide +kernel
theorem dX0_withCold_8 : decode cX0_withCold 8 = .ok (.imul, 1) := by decide +kernel
theorem dX0_withCold_9 : decode cX0_withCold 9 = .ok (.bipush 100, 2) := by decide +kernel
theorem dX0_withCold_11 : decode cX0_withCold 11 = .ok (.idiv, 1) := by decide +kernel
theorem dX0_withCold_12 : decode cX0_withCold 12 = .ok (.ireturn, 1) := by decide +kernel
theorem dX0_coldOnReturn_0 : decode cX0_coldOnReturn 0 = .ok (.bipush 100, 2) := by decide +kernel
theorem dX0_coldOnReturn_2 : decode cX0_coldOnReturn 2 = .ok (.bipush 10, 2) := by decide +kernel
theorem dX0_coldOnReturn_4 : decode cX0_coldOnReturn 4 = .ok (.aload_n 0, 1) := by decide +kernel
theorem dX0_coldOnReturn_5 : decode cX0_coldOnReturn 5 = .ok (.getfield 19, 3) := by decide +kernel
theorem dX0_coldOnReturn_8 : decode cX0_coldOnReturn 8 = .ok (.imul, 1) := by decide +kernel
theorem dX0_coldOnReturn_9 : decode cX0_coldOnReturn 9 = .ok (.invokestatic 45, 3) := by decide +kernel
theorem dX0_coldOnReturn_12 : decode cX0_coldOnReturn 12 = .ok (.ireturn, 1) := by decide +kernel
set_option maxRecDepth 20000 in
theorem ggX0_switchOff_X0_taken : GoodIn wsX0_switchOff wsX0_taken := goodIn_r _ [8, 1, 3, 9, 10, 11, 7, 12, 13, 14, 15, 16, 17, 18, 19, 20] (by decide +kernel) (by decide +kernel)
set_option maxRecDepth 20000 in
theorem gX0_switchOff_X0_taken : GoodIn wsX0_switchOff (wsV RX0 42 RX0 yX0_taken wsX0_taken) := goodIn_app (goodIn_of _ (by decide +kernel)) ggX0_switchOff_X0_taken
theorem dX0_switchOff_0 : decode cX0_switchOff 0 = .ok (.aload_n 0, 1) := by decide +kernel
theorem dX0_switchOff_1 : decode cX0_switchOff 1 = .ok (.invokevirtual 42, 3) := by decide +kernel
theorem dX0_switchOff_4 : decode cX0_switchOff 4 = .ok (.istore_n 1, 1) := by decide +kernel
theorem dX0_switchOff_5 : decode cX0_switchOff 5 = .ok (.aload_n 0, 1) := by decide +kernel
theorem dX0_switchOff_6 : decode cX0_switchOff 6 = .ok (.iconst 1, 1) := by decide +kernel
theorem dX0_switchOff_7 : decode cX0_switchOff 7 = .ok (.putfield 9, 3) := by decide +kernel
theorem dX0_switchOff_10 : decode cX0_switchOff 10 = .ok (.aload_n 0, 1) := by decide +kernel
theorem dX0_switchOff_11 : decode cX0_switchOff 11 = .ok (.iconst 0, 1) := by decide +kernel
theorem dX0_switchOff_12 : decode cX0_switchOff 12 = .ok (.putfield 19, 3) := by decide +kernel
theorem dX0_switchOff_15 : decode cX0_switchOff 15 = .ok (.aload_n 0, 1) := by decide +kernel
theorem dX0_switchOff_16 : decode cX0_switchOff 16 = .ok (.iconst 0, 1) := by decide +kernel
theorem dX0_switchOff_17 : decode cX0_switchOff 17 = .ok (.putfield 22, 3) := by decide +kernel
theorem dX0_switchOff_20 : decode cX0_switchOff 20 = .ok (.iload_n 1, 1) := by decide +kernel
theorem dX0_switchOff_21 : decode cX0_switchOff 21 = .ok (.ireturn, 1) := by decide +kernel
set_option maxRecDepth 20000 in
theorem ggX0_switchOn_X0_coldOnReturn : GoodIn wsX0_switchOn wsX0_coldOnReturn := goodIn_r _ [7, 8, 9, 10, 11, 12, 13, 14, 15, 16, 17, 18, 19] (by decide +kernel) (by decide +kernel)
set_option maxRecDepth 20000 in
theorem gX0_switchOn_X0_coldOnReturn : GoodIn wsX0_switchOn (wsV RX0 38 RX0 yX0_coldOnReturn wsX0_coldOnReturn) := goodIn_app (goodIn_of _ (by decide +kernel)) ggX0_switchOn_X0_coldOnReturn
theorem dX0_switchOn_0 : decode cX0_switchOn 0 = .ok (.aload_n 0, 1) := by decide +kernel
theorem dX0_switchOn_1 : decode cX0_switchOn 1 = .ok (.aload_n 0, 1) := by decide +kernel
theorem dX0_switchOn_2 : decode cX0_switchOn 2 = .ok (.invokevirtual 38, 3) := by decide +kernel
theorem dX0_switchOn_5 : decode cX0_switchOn 5 = .ok (.putfield 22, 3) := by decide +kernel
theorem dX0_switchOn_8 : decode cX0_switchOn 8 = .ok (.aload_n 0, 1) := by decide +kernel
theorem dX0_switchOn_9 : decode cX0_switchOn 9 = .ok (.iconst 0, 1) := by decide +kernel
theorem dX0_switchOn_10 : decode cX0_switchOn 10 = .ok (.putfield 9, 3) := by decide +kernel
theorem dX0_switchOn_13 : decode cX0_switchOn 13 = .ok (.return_, 1) := by decide +kernel
theorem dX0_letPass_0 : decode cX0_letPass 0 = .ok (.aload_n 0, 1) := by decide +kernel
theorem dX0_letPass_1 : decode cX0_letPass 1 = .ok (.getfield 9, 3) := by decide +kernel
theorem dX0_letPass_4 : decode cX0_letPass 4 = .ok (.ifCond .eq 26, 3) := by decide +kernel
theorem dX0_letPass_7 : decode cX0_letPass 7 = .ok (.aload_n 0, 1) := by decide +kernel
theorem dX0_letPass_8 : decode cX0_letPass 8 = .ok (.dup, 1) := by decide +kernel
theorem dX0_letPass_9 : decode cX0_letPass 9 = .ok (.getfield 15, 3) := by decide +kernel
theorem dX0_letPass_12 : decode cX0_letPass 12 = .ok (.iload_n 1, 1) := by decide +kernel
theorem dX0_letPass_13 : decode cX0_letPass 13 = .ok (.iadd, 1) := by decide +kernel
theorem dX0_letPass_14 : decode cX0_letPass 14 = .ok (.putfield 15, 3) := by decide +kernel
theorem dX0_letPass_17 : decode cX0_letPass 17 = .ok (.aload_n 0, 1) := by decide +kernel
theorem dX0_letPass_18 : decode cX0_letPass 18 = .ok (.dup, 1) := by decide +kernel
theorem dX0_letPass_19 : decode cX0_letPass 19 = .ok (.getfield 19, 3) := by decide +kernel
theorem dX0_letPass_22 : decode cX0_letPass 22 = .ok (.iload_n 1, 1) := by decide +kernel
theorem dX0_letPass_23 : decode cX0_letPass 23 = .ok (.iadd, 1) := by decide +kernel
theorem dX0_letPass_24 : decode cX0_letPass 24 = .ok (.putfield 19, 3) := by decide +kernel
theorem dX0_letPass_27 : decode cX0_letPass 27 = .ok (.goto 20, 3) := by decide +kernel
theorem dX0_letPass_30 : decode cX0_letPass 30 = .ok (.aload_n 0, 1) := by decide +kernel
theorem dX0_letPass_31 : decode cX0_letPass 31 = .ok (.iconst 0, 1) := by decide +kernel
theorem dX0_letPass_32 : decode cX0_letPass 32 = .ok (.aload_n 0, 1) := by decide +kernel
theorem dX0_letPass_33 : decode cX0_letPass 33 = .ok (.getfield 22, 3) := by decide +kernel
theorem dX0_letPass_36 : decode cX0_letPass 36 = .ok (.bipush 20, 2) := by decide +kernel
theorem dX0_letPass_38 : decode cX0_letPass 38 = .ok (.iload_n 1, 1) := by decide +kernel
theorem dX0_letPass_39 : decode cX0_letPass 39 = .ok (.imul, 1) := by decide +kernel
theorem dX0_letPass_40 : decode cX0_letPass 40 = .ok (.isub, 1) := by decide +kernel
theorem dX0_letPass_41 : decode cX0_letPass 41 = .ok (.invokestatic 51, 3) := by decide +kernel
theorem dX0_letPass_44 : decode cX0_letPass 44 = .ok (.putfield 22, 3) := by decide +kernel
theorem dX0_letPass_47 : decode cX0_letPass 47 = .ok (.return_, 1) := by decide +kernel
theorem dX1_init_0 : decode cX1_init 0 = .ok (.aload_n 0, 1) := by decide +kernel
theorem dX1_init_1 : decode cX1_init 1 = .ok (.invokespecial 3, 3) := by decide +kernel
theorem dX1_init_4 : decode cX1_init 4 = .ok (.aload_n 0, 1) := by decide +kernel
theorem dX1_init_5 : decode cX1_init 5 = .ok (.bipush 12, 2) := by decide +kernel
theorem dX1_init_7 : decode cX1_init 7 = .ok (.newarray .int, 2) := by decide +kernel
theorem dX1_init_9 : decode cX1_init 9 = .ok (.putfield 9, 3) := by decide +kernel
theorem dX1_init_12 : decode cX1_init 12 = .ok (.aload_n 0, 1) := by decide +kernel
theorem dX1_init_13 : decode cX1_init 13 = .ok (.bipush 12, 2) := by decide +kernel
theorem dX1_init_15 : decode cX1_init 15 = .ok (.newarray .int, 2) := by decide +kernel
theorem dX1_init_17 : decode cX1_init 17 = .ok (.putfield 15, 3) := by decide +kernel
theorem dX1_init_20 : decode cX1_init 20 = .ok (.aload_n 0, 1) := by decide +kernel
theorem dX1_init_21 : decode cX1_init 21 = .ok (.bipush 12, 2) := by decide +kernel
theorem dX1_init_23 : decode cX1_init 23 = .ok (.newarray .int, 2) := by decide +kernel
theorem dX1_init_25 : decode cX1_init 25 = .ok (.putfield 18, 3) := by decide +kernel
theorem dX1_init_28 : decode cX1_init 28 = .ok (.aload_n 0, 1) := by decide +kernel
theorem dX1_init_29 : decode cX1_init 29 = .ok (.bipush 13, 2) := by decide +kernel
theorem dX1_init_31 : decode cX1_init 31 = .ok (.newarray .int, 2) := by decide +kernel
theorem dX1_init_33 : decode cX1_init 33 = .ok (.putfield 21, 3) := by decide +kernel
theorem dX1_init_36 : decode cX1_init 36 = .ok (.aload_n 0, 1) := by decide +kernel
theorem dX1_init_37 : decode cX1_init 37 = .ok (.iconst 0, 1) := by decide +kernel
theorem dX1_init_38 : decode cX1_init 38 = .ok (.putfield 24, 3) := by decide +kernel
theorem dX1_init_41 : decode cX1_init 41 = .ok (.aload_n 0, 1) := by decide +kernel
theorem dX1_init_42 : decode cX1_init 42 = .ok (.iconst 0, 1) := by decide +kernel
theorem dX1_init_43 : decode cX1_init 43 = .ok (.putfield 28, 3) := by decide +kernel
theorem dX1_init_46 : decode cX1_init 46 = .ok (.aload_n 0, 1) := by decide +kernel
theorem dX1_init_47 : decode cX1_init 47 = .ok (.iconst 0, 1) := by decide +kernel
theorem dX1_init_48 : decode cX1_init 48 = .ok (.putfield 31, 3) := by decide +kernel
theorem dX1_init_51 : decode cX1_init 51 = .ok (.aload_n 0, 1) := by decide +kernel
theorem dX1_init_52 : decode cX1_init 52 = .ok (.iconst 0, 1) := by decide +kernel
theorem dX1_init_53 : decode cX1_init 53 = .ok (.putfield 34, 3) := by decide +kernel
theorem dX1_init_56 : decode cX1_init 56 = .ok (.aload_n 0, 1) := by decide +kernel
theorem dX1_init_57 : decode cX1_init 57 = .ok (.iconst 0, 1) := by decide +kernel
theorem dX1_init_58 : decode cX1_init 58 = .ok (.putfield 37, 3) := by decide +kernel
theorem dX1_init_61 : decode cX1_init 61 = .ok (.aload_n 0, 1) := by decide +kernel
theorem dX1_init_62 : decode cX1_init 62 = .ok (.iconst 0, 1) := by decide +kernel
theorem dX1_init_63 : decode cX1_init 63 = .ok (.putfield 40, 3) := by decide +kernel
theorem dX1_init_66 : decode cX1_init 66 = .ok (.return_, 1) := by decide +kernel
theorem dX1_begin_0 : decode cX1_begin 0 = .ok (.aload_n 0, 1) := by decide +kernel
theorem dX1_begin_1 : decode cX1_begin 1 = .ok (.iload_n 1, 1) := by decide +kernel
theorem dX1_begin_2 : decode cX1_begin 2 = .ok (.putfield 28, 3) := by decide +kernel
theorem dX1_begin_5 : decode cX1_begin 5 = .ok (.aload_n 0, 1) := by decide +kernel
theorem dX1_begin_6 : decode cX1_begin 6 = .ok (.iload_n 1, 1) := by decide +kernel
theorem dX1_begin_7 : decode cX1_begin 7 = .ok (.iload_n 2, 1) := by decide +kernel
theorem dX1_begin_8 : decode cX1_begin 8 = .ok (.iadd, 1) := by decide +kernel
theorem dX1_begin_9 : decode cX1_begin 9 = .ok (.putfield 31, 3) := by decide +kernel
theorem dX1_begin_12 : decode cX1_begin 12 = .ok (.aload_n 0, 1) := by decide +kernel
theorem dX1_begin_13 : decode cX1_begin 13 = .ok (.iconst 0, 1) := by decide +kernel
theorem dX1_begin_14 : decode cX1_begin 14 = .ok (.putfield 24, 3) := by decide +kernel
theorem dX1_begin_17 : decode cX1_begin 17 = .ok (.aload_n 0, 1) := by decide +kernel
theorem dX1_begin_18 : decode cX1_begin 18 = .ok (.iconst 0, 1) := by decide +kernel
theorem dX1_begin_19 : decode cX1_begin 19 = .ok (.putfield 34, 3) := by decide +kernel
theorem dX1_begin_22 : decode cX1_begin 22 = .ok (.return_, 1) := by decide +kernel
theorem dX1_offer_0 : decode cX1_offer 0 = .ok (.aload_n 0, 1) := by decide +kernel
theorem dX1_offer_1 : decode cX1_offer 1 = .ok (.getfield 24, 3) := by decide +kernel
theorem dX1_offer_4 : decode cX1_offer 4 = .ok (.bipush 12, 2) := by decide +kernel
theorem dX1_offer_6 : decode cX1_offer 6 = .ok (.if_icmp .lt 4, 3) := by decide +kernel
theorem dX1_offer_9 : decode cX1_offer 9 = .ok (.return_, 1) := by decide +kernel
theorem dX1_offer_10 : decode cX1_offer 10 = .ok (.aload_n 0, 1) := by decide +kernel
theorem dX1_offer_11 : decode cX1_offer 11 = .ok (.getfield 9, 3) := by decide +kernel
theorem dX1_offer_14 : decode cX1_offer 14 = .ok (.aload_n 0, 1) := by decide +kernel
theorem dX1_offer_15 : decode cX1_offer 15 = .ok (.getfield 24, 3) := by decide +kernel
theorem dX1_offer_18 : decode cX1_offer 18 = .ok (.iconst 1, 1) := by decide +kernel
theorem dX1_offer_19 : decode cX1_offer 19 = .ok (.iload_n 1, 1) := by decide +kernel
theorem dX1_offer_20 : decode cX1_offer 20 = .ok (.ishl, 1) := by decide +kernel
theorem dX1_offer_21 : decode cX1_offer 21 = .ok (.iastore, 1) := by decide +kernel
theorem dX1_offer_22 : decode cX1_offer 22 = .ok (.aload_n 0, 1) := by decide +kernel
theorem dX1_offer_23 : decode cX1_offer 23 = .ok (.getfield 15, 3) := by decide +kernel
theorem dX1_offer_26 : decode cX1_offer 26 = .ok (.aload_n 0, 1) := by decide +kernel
theorem dX1_offer_27 : decode cX1_offer 27 = .ok (.getfield 24, 3) := by decide +kernel
theorem dX1_offer_30 : decode cX1_offer 30 = .ok (.iload_n 2, 1) := by decide +kernel
theorem dX1_offer_31 : decode cX1_offer 31 = .ok (.iastore, 1) := by decide +kernel
theorem dX1_offer_32 : decode cX1_offer 32 = .ok (.aload_n 0, 1) := by decide +kernel
theorem dX1_offer_33 : decode cX1_offer 33 = .ok (.getfield 18, 3) := by decide +kernel
theorem dX1_offer_36 : decode cX1_offer 36 = .ok (.aload_n 0, 1) := by decide +kernel
theorem dX1_offer_37 : decode cX1_offer 37 = .ok (.getfield 24, 3) := by decide +kernel
theorem dX1_offer_40 : decode cX1_offer 40 = .ok (.iload_n 3, 1) := by decide +kernel
theorem dX1_offer_41 : decode cX1_offer 41 = .ok (.iastore, 1) := by decide +kernel
theorem dX1_offer_42 : decode cX1_offer 42 = .ok (.aload_n 0, 1) := by decide +kernel
theorem dX1_offer_43 : decode cX1_offer 43 = .ok (.getfield 21, 3) := by decide +kernel
theorem dX1_offer_46 : decode cX1_offer 46 = .ok (.aload_n 0, 1) := by decide +kernel
theorem dX1_offer_47 : decode cX1_offer 47 = .ok (.getfield 24, 3) := by decide +kernel
theorem dX1_offer_50 : decode cX1_offer 50 = .ok (.iconst 1, 1) := by decide +kernel
theorem dX1_offer_51 : decode cX1_offer 51 = .ok (.iadd, 1) := by decide +kernel
theorem dX1_offer_52 : decode cX1_offer 52 = .ok (.aload_n 0, 1) := by decide +kernel
theorem dX1_offer_53 : decode cX1_offer 53 = .ok (.getfield 21, 3) := by decide +kernel
theorem dX1_offer_56 : decode cX1_offer 56 = .ok (.aload_n 0, 1) := by decide +kernel
theorem dX1_offer_57 : decode cX1_offer 57 = .ok (.getfield 24, 3) := by decide +kernel
theorem dX1_offer_60 : decode cX1_offer 60 = .ok (.iaload, 1) := by decide +kernel
theorem dX1_offer_61 : decode cX1_offer 61 = .ok (.iload_n 2, 1) := by decide +kernel
theorem dX1_offer_62 : decode cX1_offer 62 = .ok (.iadd, 1) := by decide +kernel
theorem dX1_offer_63 : decode cX1_offer 63 = .ok (.iastore, 1) := by decide +kernel
theorem dX1_offer_64 : decode cX1_offer 64 = .ok (.aload_n 0, 1) := by decide +kernel
theorem dX1_offer_65 : decode cX1_offer 65 = .ok (.dup, 1) := by decide +kernel
theorem dX1_offer_66 : decode cX1_offer 66 = .ok (.getfield 24, 3) := by decide +kernel
theorem dX1_offer_69 : decode cX1_offer 69 = .ok (.iconst 1, 1) := by decide +kernel
theorem dX1_offer_70 : decode cX1_offer 70 = .ok (.iadd, 1) := by decide +kernel
theorem dX1_offer_71 : decode cX1_offer 71 = .ok (.putfield 24, 3) := by decide +kernel
theorem dX1_offer_74 : decode cX1_offer 74 = .ok (.return_, 1) := by decide +kernel
set_option maxRecDepth 20000 in
theorem ggX1_bestByWalking_X1_walk : GoodIn wsX1_bestByWalking wsX1_walk := goodIn_r _ [6, 7, 8, 9, 10, 11, 12, 13, 14, 5, 15, 2, 16, 17, 18, 19, 20, 21, 22, 3, 4, 23, 24, 25, 26, 27, 28, 29, 30, 31, 32] (by decide +kernel) (by decide +kernel)
set_option maxRecDepth 20000 in
theorem gX1_bestByWalking_X1_walk : GoodIn wsX1_bestByWalking (va_wsS RX1 43 yX1_walk wsX1_walk) := goodIn_app (goodIn_of _ (by decide +kernel)) ggX1_bestByWalking_X1_walk
theorem dX1_bestByWalking_0 : decode cX1_bestByWalking 0 = .ok (.aload_n 0, 1) := by decide +kernel
theorem dX1_bestByWalking_1 : decode cX1_bestByWalking 1 = .ok (.aload_n 0, 1) := by decide +kernel
theorem dX1_bestByWalking_2 : decode cX1_bestByWalking 2 = .ok (.getfield 24, 3) := by decide +kernel
theorem dX1_bestByWalking_5 : decode cX1_bestByWalking 5 = .ok (.iconst 0, 1) := by decide +kernel
theorem dX1_bestByWalking_6 : decode cX1_bestByWalking 6 = .ok (.iconst 0, 1) := by decide +kernel
theorem dX1_bestByWalking_7 : decode cX1_bestByWalking 7 = .ok (.iconst 0, 1) := by decide +kernel
theorem dX1_bestByWalking_8 : decode cX1_bestByWalking 8 = .ok (.invokestatic 43, 3) := by decide +kernel
theorem dX1_bestByWalking_11 : decode cX1_bestByWalking 11 = .ok (.aload_n 0, 1) := by decide +kernel
theorem dX1_bestByWalking_12 : decode cX1_bestByWalking 12 = .ok (.getfield 34, 3) := by decide +kernel
theorem dX1_bestByWalking_15 : decode cX1_bestByWalking 15 = .ok (.ireturn, 1) := by decide +kernel
set_option maxRecDepth 20000 in
theorem ggX1_walk_X1_weigh : GoodIn wsX1_walk wsX1_weigh := goodIn_r _ [10, 11, 12, 13, 14, 15, 16, 9, 17, 18, 21, 22, 23, 24, 25, 26, 27, 28, 29, 30] (by decide +kernel) (by decide +kernel)
set_option maxRecDepth 20000 in
theorem gX1_walk_X1_weigh : GoodIn wsX1_walk (wsV RX1 47 RX1 yX1_weigh wsX1_weigh) := goodIn_app (goodIn_of _ (by decide +kernel)) ggX1_walk_X1_weigh
set_option maxRecDepth 20000 in
theorem ggX1_walk_X1_walk : GoodIn wsX1_walk wsX1_walk := goodIn_r _ [0, 1, 2, 3, 4, 5, 6, 7, 8, 9, 10, 11, 12, 13, 14, 15, 16, 17, 18, 19, 20, 21, 22, 23, 24, 25, 26, 27, 28, 29, 30] (by decide +kernel) (by decide +kernel)
set_option maxRecDepth 20000 in
theorem gX1_walk_X1_walk : GoodIn wsX1_walk (va_wsS RX1 43 yX1_walk wsX1_walk) := goodIn_app (goodIn_of _ (by decide +kernel)) ggX1_walk_X1_walk
theorem dX1_walk_0 : decode cX1_walk 0 = .ok (.iload_n 3, 1) := by decide +kernel
theorem dX1_walk_1 : decode cX1_walk 1 = .ok (.aload_n 0, 1) := by decide +kernel
theorem dX1_walk_2 : decode cX1_walk 2 = .ok (.getfield 28, 3) := by decide +kernel
theorem dX1_walk_5 : decode cX1_walk 5 = .ok (.if_icmp .lt 12, 3) := by decide +kernel
theorem dX1_walk_8 : decode cX1_walk 8 = .ok (.aload_n 0, 1) := by decide +kernel
theorem dX1_walk_9 : decode cX1_walk 9 = .ok (.iload_n 2, 1) := by decide +kernel
theorem dX1_walk_10 : decode cX1_walk 10 = .ok (.iload_n 3, 1) := by decide +kernel
theorem dX1_walk_11 : decode cX1_walk 11 = .ok (.iload 4, 2) := by decide +kernel
theorem dX1_walk_13 : decode cX1_walk 13 = .ok (.invokevirtual 47, 3) := by decide +kernel
theorem dX1_walk_16 : decode cX1_walk 16 = .ok (.return_, 1) := by decide +kernel
theorem dX1_walk_17 : decode cX1_walk 17 = .ok (.iload_n 1, 1) := by decide +kernel
theorem dX1_walk_18 : decode cX1_walk 18 = .ok (.iconst 1, 1) := by decide +kernel
theorem dX1_walk_19 : decode cX1_walk 19 = .ok (.if_icmp .lt 24, 3) := by decide +kernel
theorem dX1_walk_22 : decode cX1_walk 22 = .ok (.iload_n 1, 1) := by decide +kernel
theorem dX1_walk_23 : decode cX1_walk 23 = .ok (.bipush 12, 2) := by decide +kernel
theorem dX1_walk_25 : decode cX1_walk 25 = .ok (.if_icmp .gt 18, 3) := by decide +kernel
theorem dX1_walk_28 : decode cX1_walk 28 = .ok (.iload_n 3, 1) := by decide +kernel
theorem dX1_walk_29 : decode cX1_walk 29 = .ok (.aload_n 0, 1) := by decide +kernel
theorem dX1_walk_30 : decode cX1_walk 30 = .ok (.getfield 21, 3) := by decide +kernel
theorem dX1_walk_33 : decode cX1_walk 33 = .ok (.iload_n 1, 1) := by decide +kernel
theorem dX1_walk_34 : decode cX1_walk 34 = .ok (.iaload, 1) := by decide +kernel
theorem dX1_walk_35 : decode cX1_walk 35 = .ok (.iadd, 1) := by decide +kernel
theorem dX1_walk_36 : decode cX1_walk 36 = .ok (.aload_n 0, 1) := by decide +kernel
theorem dX1_walk_37 : decode cX1_walk 37 = .ok (.getfield 28, 3) := by decide +kernel
theorem dX1_walk_40 : decode cX1_walk 40 = .ok (.if_icmp .ge 4, 3) := by decide +kernel
theorem dX1_walk_43 : decode cX1_walk 43 = .ok (.return_, 1) := by decide +kernel
theorem dX1_walk_44 : decode cX1_walk 44 = .ok (.iload_n 1, 1) := by decide +kernel
theorem dX1_walk_45 : decode cX1_walk 45 = .ok (.iconst 1, 1) := by decide +kernel
theorem dX1_walk_46 : decode cX1_walk 46 = .ok (.isub, 1) := by decide +kernel
theorem dX1_walk_47 : decode cX1_walk 47 = .ok (.istore 5, 2) := by decide +kernel
theorem dX1_walk_49 : decode cX1_walk 49 = .ok (.aload_n 0, 1) := by decide +kernel
theorem dX1_walk_50 : decode cX1_walk 50 = .ok (.iload 5, 2) := by decide +kernel
theorem dX1_walk_52 : decode cX1_walk 52 = .ok (.iload_n 2, 1) := by decide +kernel
theorem dX1_walk_53 : decode cX1_walk 53 = .ok (.iload_n 3, 1) := by decide +kernel
theorem dX1_walk_54 : decode cX1_walk 54 = .ok (.iload 4, 2) := by decide +kernel
theorem dX1_walk_56 : decode cX1_walk 56 = .ok (.invokestatic 43, 3) := by decide +kernel
theorem dX1_walk_59 : decode cX1_walk 59 = .ok (.aload_n 0, 1) := by decide +kernel
theorem dX1_walk_60 : decode cX1_walk 60 = .ok (.iload 5, 2) := by decide +kernel
theorem dX1_walk_62 : decode cX1_walk 62 = .ok (.iload_n 2, 1) := by decide +kernel
theorem dX1_walk_63 : decode cX1_walk 63 = .ok (.aload_n 0, 1) := by decide +kernel
theorem dX1_walk_64 : decode cX1_walk 64 = .ok (.getfield 9, 3) := by decide +kernel
theorem dX1_walk_67 : decode cX1_walk 67 = .ok (.iload 5, 2) := by decide +kernel
theorem dX1_walk_69 : decode cX1_walk 69 = .ok (.iaload, 1) := by decide +kernel
theorem dX1_walk_70 : decode cX1_walk 70 = .ok (.ior, 1) := by decide +kernel
theorem dX1_walk_71 : decode cX1_walk 71 = .ok (.iload_n 3, 1) := by decide +kernel
theorem dX1_walk_72 : decode cX1_walk 72 = .ok (.aload_n 0, 1) := by decide +kernel
theorem dX1_walk_73 : decode cX1_walk 73 = .ok (.getfield 15, 3) := by decide +kernel
theorem dX1_walk_76 : decode cX1_walk 76 = .ok (.iload 5, 2) := by decide +kernel
theorem dX1_walk_78 : decode cX1_walk 78 = .ok (.iaload, 1) := by decide +kernel
theorem dX1_walk_79 : decode cX1_walk 79 = .ok (.iadd, 1) := by decide +kernel
theorem dX1_walk_80 : decode cX1_walk 80 = .ok (.iload 4, 2) := by decide +kernel
theorem dX1_walk_82 : decode cX1_walk 82 = .ok (.aload_n 0, 1) := by decide +kernel
theorem dX1_walk_83 : decode cX1_walk 83 = .ok (.getfield 18, 3) := by decide +kernel
theorem dX1_walk_86 : decode cX1_walk 86 = .ok (.iload 5, 2) := by decide +kernel
theorem dX1_walk_88 : decode cX1_walk 88 = .ok (.iaload, 1) := by decide +kernel
theorem dX1_walk_89 : decode cX1_walk 89 = .ok (.iadd, 1) := by decide +kernel
theorem dX1_walk_90 : decode cX1_walk 90 = .ok (.invokestatic 43, 3) := by decide +kernel
theorem dX1_walk_93 : decode cX1_walk 93 = .ok (.return_, 1) := by decide +kernel
set_option maxRecDepth 20000 in
theorem ggX1_weigh_X1_isBetter : GoodIn wsX1_weigh wsX1_isBetter := goodIn_r _ [8, 9, 2, 3, 1, 10, 11, 12, 13, 14, 15, 16, 17, 18, 19] (by decide +kernel) (by decide +kernel)
set_option maxRecDepth 20000 in
theorem gX1_weigh_X1_isBetter : GoodIn wsX1_weigh (wsV RX1 59 RX1 yX1_isBetter wsX1_isBetter) := goodIn_app (goodIn_of _ (by decide +kernel)) ggX1_weigh_X1_isBetter
theorem dX1_weigh_0 : decode cX1_weigh 0 = .ok (.aload_n 0, 1) := by decide +kernel
theorem dX1_weigh_1 : decode cX1_weigh 1 = .ok (.getfield 34, 3) := by decide +kernel
theorem dX1_weigh_4 : decode cX1_weigh 4 = .ok (.ifCond .eq 13, 3) := by decide +kernel
theorem dX1_weigh_7 : decode cX1_weigh 7 = .ok (.aload_n 0, 1) := by decide +kernel
theorem dX1_weigh_8 : decode cX1_weigh 8 = .ok (.iload_n 1, 1) := by decide +kernel
theorem dX1_weigh_9 : decode cX1_weigh 9 = .ok (.iload_n 2, 1) := by decide +kernel
theorem dX1_weigh_10 : decode cX1_weigh 10 = .ok (.iload_n 3, 1) := by decide +kernel
theorem dX1_weigh_11 : decode cX1_weigh 11 = .ok (.invokevirtual 59, 3) := by decide +kernel
theorem dX1_weigh_14 : decode cX1_weigh 14 = .ok (.ifCond .eq 18, 3) := by decide +kernel
theorem dX1_weigh_17 : decode cX1_weigh 17 = .ok (.aload_n 0, 1) := by decide +kernel
theorem dX1_weigh_18 : decode cX1_weigh 18 = .ok (.iload_n 1, 1) := by decide +kernel
theorem dX1_weigh_19 : decode cX1_weigh 19 = .ok (.putfield 34, 3) := by decide +kernel
theorem dX1_weigh_22 : decode cX1_weigh 22 = .ok (.aload_n 0, 1) := by decide +kernel
theorem dX1_weigh_23 : decode cX1_weigh 23 = .ok (.iload_n 2, 1) := by decide +kernel
theorem dX1_weigh_24 : decode cX1_weigh 24 = .ok (.putfield 37, 3) := by decide +kernel
theorem dX1_weigh_27 : decode cX1_weigh 27 = .ok (.aload_n 0, 1) := by decide +kernel
theorem dX1_weigh_28 : decode cX1_weigh 28 = .ok (.iload_n 3, 1) := by decide +kernel
theorem dX1_weigh_29 : decode cX1_weigh 29 = .ok (.putfield 40, 3) := by decide +kernel
theorem dX1_weigh_32 : decode cX1_weigh 32 = .ok (.return_, 1) := by decide +kernel
theorem dX1_isBetter_0 : decode cX1_isBetter 0 = .ok (.iload_n 2, 1) := by decide +kernel
theorem dX1_isBetter_1 : decode cX1_isBetter 1 = .ok (.aload_n 0, 1) := by decide +kernel
theorem dX1_isBetter_2 : decode cX1_isBetter 2 = .ok (.getfield 31, 3) := by decide +kernel
theorem dX1_isBetter_5 : decode cX1_isBetter 5 = .ok (.if_icmp .gt 7, 3) := by decide +kernel
theorem dX1_isBetter_8 : decode cX1_isBetter 8 = .ok (.iconst 1, 1) := by decide +kernel
theorem dX1_isBetter_9 : decode cX1_isBetter 9 = .ok (.goto 4, 3) := by decide +kernel
theorem dX1_isBetter_12 : decode cX1_isBetter 12 = .ok (.iconst 0, 1) := by decide +kernel
theorem dX1_isBetter_13 : decode cX1_isBetter 13 = .ok (.istore 4, 2) := by decide +kernel
theorem dX1_isBetter_15 : decode cX1_isBetter 15 = .ok (.iload 4, 2) := by decide +kernel
theorem dX1_isBetter_17 : decode cX1_isBetter 17 = .ok (.aload_n 0, 1) := by decide +kernel
theorem dX1_isBetter_18 : decode cX1_isBetter 18 = .ok (.getfield 37, 3) := by decide +kernel
theorem dX1_isBetter_21 : decode cX1_isBetter 21 = .ok (.aload_n 0, 1) := by decide +kernel
theorem dX1_isBetter_22 : decode cX1_isBetter 22 = .ok (.getfield 31, 3) := by decide +kernel
theorem dX1_isBetter_25 : decode cX1_isBetter 25 = .ok (.if_icmp .gt 7, 3) := by decide +kernel
theorem dX1_isBetter_28 : decode cX1_isBetter 28 = .ok (.iconst 1, 1) := by decide +kernel
theorem dX1_isBetter_29 : decode cX1_isBetter 29 = .ok (.goto 4, 3) := by decide +kernel
theorem dX1_isBetter_32 : decode cX1_isBetter 32 = .ok (.iconst 0, 1) := by decide +kernel
theorem dX1_isBetter_33 : decode cX1_isBetter 33 = .ok (.if_icmp .eq 6, 3) := by decide +kernel
theorem dX1_isBetter_36 : decode cX1_isBetter 36 = .ok (.iload 4, 2) := by decide +kernel
theorem dX1_isBetter_38 : decode cX1_isBetter 38 = .ok (.ireturn, 1) := by decide +kernel
theorem dX1_isBetter_39 : decode cX1_isBetter 39 = .ok (.iload_n 2, 1) := by decide +kernel
theorem dX1_isBetter_40 : decode cX1_isBetter 40 = .ok (.aload_n 0, 1) := by decide +kernel
theorem dX1_isBetter_41 : decode cX1_isBetter 41 = .ok (.getfield 37, 3) := by decide +kernel
theorem dX1_isBetter_44 : decode cX1_isBetter 44 = .ok (.if_icmp .ne 25, 3) := by decide +kernel
theorem dX1_isBetter_47 : decode cX1_isBetter 47 = .ok (.iload_n 3, 1) := by decide +kernel
theorem dX1_isBetter_48 : decode cX1_isBetter 48 = .ok (.aload_n 0, 1) := by decide +kernel
theorem dX1_isBetter_49 : decode cX1_isBetter 49 = .ok (.getfield 40, 3) := by decide +kernel
theorem dX1_isBetter_52 : decode cX1_isBetter 52 = .ok (.if_icmp .ne 17, 3) := by decide +kernel
theorem dX1_isBetter_55 : decode cX1_isBetter 55 = .ok (.iload_n 1, 1) := by decide +kernel
theorem dX1_isBetter_56 : decode cX1_isBetter 56 = .ok (.aload_n 0, 1) := by decide +kernel
theorem dX1_isBetter_57 : decode cX1_isBetter 57 = .ok (.getfield 34, 3) := by decide +kernel
theorem dX1_isBetter_60 : decode cX1_isBetter 60 = .ok (.if_icmp .ge 7, 3) := by decide +kernel
theorem dX1_isBetter_63 : decode cX1_isBetter 63 = .ok (.iconst 1, 1) := by decide +kernel
theorem dX1_isBetter_64 : decode cX1_isBetter 64 = .ok (.goto 4, 3) := by decide +kernel
theorem dX1_isBetter_67 : decode cX1_isBetter 67 = .ok (.iconst 0, 1) := by decide +kernel
theorem dX1_isBetter_68 : decode cX1_isBetter 68 = .ok (.ireturn, 1) := by decide +kernel
theorem dX1_isBetter_69 : decode cX1_isBetter 69 = .ok (.iload 4, 2) := by decide +kernel
theorem dX1_isBetter_71 : decode cX1_isBetter 71 = .ok (.ifCond .eq 41, 3) := by decide +kernel
theorem dX1_isBetter_74 : decode cX1_isBetter 74 = .ok (.iload_n 3, 1) := by decide +kernel
theorem dX1_isBetter_75 : decode cX1_isBetter 75 = .ok (.aload_n 0, 1) := by decide +kernel
theorem dX1_isBetter_76 : decode cX1_isBetter 76 = .ok (.getfield 40, 3) := by decide +kernel
theorem dX1_isBetter_79 : decode cX1_isBetter 79 = .ok (.if_icmp .eq 19, 3) := by decide +kernel
theorem dX1_isBetter_82 : decode cX1_isBetter 82 = .ok (.iload_n 3, 1) := by decide +kernel
theorem dX1_isBetter_83 : decode cX1_isBetter 83 = .ok (.aload_n 0, 1) := by decide +kernel
theorem dX1_isBetter_84 : decode cX1_isBetter 84 = .ok (.getfield 40, 3) := by decide +kernel
theorem dX1_isBetter_87 : decode cX1_isBetter 87 = .ok (.if_icmp .ge 7, 3) := by decide +kernel
theorem dX1_isBetter_90 : decode cX1_isBetter 90 = .ok (.iconst 1, 1) := by decide +kernel
theorem dX1_isBetter_91 : decode cX1_isBetter 91 = .ok (.goto 20, 3) := by decide +kernel
theorem dX1_isBetter_94 : decode cX1_isBetter 94 = .ok (.iconst 0, 1) := by decide +kernel
theorem dX1_isBetter_95 : decode cX1_isBetter 95 = .ok (.goto 16, 3) := by decide +kernel
theorem dX1_isBetter_98 : decode cX1_isBetter 98 = .ok (.iload_n 2, 1) := by decide +kernel
theorem dX1_isBetter_99 : decode cX1_isBetter 99 = .ok (.aload_n 0, 1) := by decide +kernel
theorem dX1_isBetter_100 : decode cX1_isBetter 100 = .ok (.getfield 37, 3) := by decide +kernel
theorem dX1_isBetter_103 : decode cX1_isBetter 103 = .ok (.if_icmp .ge 7, 3) := by decide +kernel
theorem dX1_isBetter_106 : decode cX1_isBetter 106 = .ok (.iconst 1, 1) := by decide +kernel
theorem dX1_isBetter_107 : decode cX1_isBetter 107 = .ok (.goto 4, 3) := by decide +kernel
theorem dX1_isBetter_110 : decode cX1_isBetter 110 = .ok (.iconst 0, 1) := by decide +kernel
theorem dX1_isBetter_111 : decode cX1_isBetter 111 = .ok (.ireturn, 1) := by decide +kernel
theorem dX1_isBetter_112 : decode cX1_isBetter 112 = .ok (.iload_n 2, 1) := by decide +kernel
theorem dX1_isBetter_113 : decode cX1_isBetter 113 = .ok (.aload_n 0, 1) := by decide +kernel
theorem dX1_isBetter_114 : decode cX1_isBetter 114 = .ok (.getfield 37, 3) := by decide +kernel
theorem dX1_isBetter_117 : decode cX1_isBetter 117 = .ok (.if_icmp .eq 19, 3) := by decide +kernel
theorem dX1_isBetter_120 : decode cX1_isBetter 120 = .ok (.iload_n 2, 1) := by decide +kernel
theorem dX1_isBetter_121 : decode cX1_isBetter 121 = .ok (.aload_n 0, 1) := by decide +kernel
theorem dX1_isBetter_122 : decode cX1_isBetter 122 = .ok (.getfield 37, 3) := by decide +kernel
theorem dX1_isBetter_125 : decode cX1_isBetter 125 = .ok (.if_icmp .ge 7, 3) := by decide +kernel
theorem dX1_isBetter_128 : decode cX1_isBetter 128 = .ok (.iconst 1, 1) := by decide +kernel
theorem dX1_isBetter_129 : decode cX1_isBetter 129 = .ok (.goto 20, 3) := by decide +kernel
theorem dX1_isBetter_132 : decode cX1_isBetter 132 = .ok (.iconst 0, 1) := by decide +kernel
theorem dX1_isBetter_133 : decode cX1_isBetter 133 = .ok (.goto 16, 3) := by decide +kernel
theorem dX1_isBetter_136 : decode cX1_isBetter 136 = .ok (.iload_n 3, 1) := by decide +kernel
theorem dX1_isBetter_137 : decode cX1_isBetter 137 = .ok (.aload_n 0, 1) := by decide +kernel
theorem dX1_isBetter_138 : decode cX1_isBetter 138 = .ok (.getfield 40, 3) := by decide +kernel
theorem dX1_isBetter_141 : decode cX1_isBetter 141 = .ok (.if_icmp .ge 7, 3) := by decide +kernel
theorem dX1_isBetter_144 : decode cX1_isBetter 144 = .ok (.iconst 1, 1) := by decide +kernel
theorem dX1_isBetter_145 : decode cX1_isBetter 145 = .ok (.goto 4, 3) := by decide +kernel
theorem dX1_isBetter_148 : decode cX1_isBetter 148 = .ok (.iconst 0, 1) := by decide +kernel
theorem dX1_isBetter_149 : decode cX1_isBetter 149 = .ok (.ireturn, 1) := by decide +kernel
theorem dJ9_max_7cf53_0 : decode cJ9_max_7cf53 0 = .ok (.iload_n 0, 1) := by decide +kernel
theorem dJ9_max_7cf53_1 : decode cJ9_max_7cf53 1 = .ok (.iload_n 1, 1) := by decide +kernel
theorem dJ9_max_7cf53_2 : decode cJ9_max_7cf53 2 = .ok (.if_icmp .lt 7, 3) := by decide +kernel
theorem dJ9_max_7cf53_5 : decode cJ9_max_7cf53 5 = .ok (.iload_n 0, 1) := by decide +kernel
theorem dJ9_max_7cf53_6 : decode cJ9_max_7cf53 6 = .ok (.goto 4, 3) := by decide +kernel
theorem dJ9_max_7cf53_9 : decode cJ9_max_7cf53 9 = .ok (.iload_n 1, 1) := by decide +kernel
theorem dJ9_max_7cf53_10 : decode cJ9_max_7cf53 10 = .ok (.ireturn, 1) := by decide +kernel
theorem dJ9_min_7cf53_0 : decode cJ9_min_7cf53 0 = .ok (.iload_n 0, 1) := by decide +kernel
theorem dJ9_min_7cf53_1 : decode cJ9_min_7cf53 1 = .ok (.iload_n 1, 1) := by decide +kernel
theorem dJ9_min_7cf53_2 : decode cJ9_min_7cf53 2 = .ok (.if_icmp .gt 7, 3) := by decide +kernel
theorem dJ9_min_7cf53_5 : decode cJ9_min_7cf53 5 = .ok (.iload_n 0, 1) := by decide +kernel
theorem dJ9_min_7cf53_6 : decode cJ9_min_7cf53 6 = .ok (.goto 4, 3) := by decide +kernel
theorem dJ9_min_7cf53_9 : decode cJ9_min_7cf53 9 = .ok (.iload_n 1, 1) := by decide +kernel
theorem dJ9_min_7cf53_10 : decode cJ9_min_7cf53 10 = .ok (.ireturn, 1) := by decide +kernel
theorem dJxa1e45_init_da8c8_0 : decode cJxa1e45_init_da8c8 0 = .ok (.aload_n 0, 1) := by decide +kernel
theorem dJxa1e45_init_da8c8_1 : decode cJxa1e45_init_da8c8 1 = .ok (.invokespecial 1, 3) := by decide +kernel
theorem dJxa1e45_init_da8c8_4 : decode cJxa1e45_init_da8c8 4 = .ok (.return_, 1) := by decide +kernel
set_option maxRecDepth 20000 in
theorem ggJxc12de_init_da8c8_Jxa1e45_init_da8c8 : GoodIn wsJxc12de_init_da8c8 wsJxa1e45_init_da8c8 := goodIn_r _ [5, 6, 7, 8] (by decide +kernel) (by decide +kernel)
set_option maxRecDepth 20000 in
theorem gJxc12de_init_da8c8_Jxa1e45_init_da8c8 : GoodIn wsJxc12de_init_da8c8 (wsJxa1e45_init_da8c8) := ggJxc12de_init_da8c8_Jxa1e45_init_da8c8
theorem dJxc12de_init_da8c8_0 : decode cJxc12de_init_da8c8 0 = .ok (.aload_n 0, 1) := by decide +kernel
theorem dJxc12de_init_da8c8_1 : decode cJxc12de_init_da8c8 1 = .ok (.invokespecial 1, 3) := by decide +kernel
theorem dJxc12de_init_da8c8_4 : decode cJxc12de_init_da8c8 4 = .ok (.aload_n 0, 1) := by decide +kernel
theorem dJxc12de_init_da8c8_5 : decode cJxc12de_init_da8c8 5 = .ok (.iconst 0, 1) := by decide +kernel
theorem dJxc12de_init_da8c8_6 : decode cJxc12de_init_da8c8 6 = .ok (.putfield 7, 3) := by decide +kernel
theorem dJxc12de_init_da8c8_9 : decode cJxc12de_init_da8c8 9 = .ok (.return_, 1) := by decide +kernel
set_option maxRecDepth 20000 in
theorem ggJx4a65c_init_da8c8_Jxc12de_init_da8c8 : GoodIn wsJx4a65c_init_da8c8 wsJxc12de_init_da8c8 := goodIn_r _ [6, 7, 8, 9, 10, 11, 12, 13, 14, 15, 16, 17] (by decide +kernel) (by decide +kernel)
set_option maxRecDepth 20000 in
theorem gJx4a65c_init_da8c8_Jxc12de_init_da8c8 : GoodIn wsJx4a65c_init_da8c8 (wsJxc12de_init_da8c8) := ggJx4a65c_init_da8c8_Jxc12de_init_da8c8
theorem dJx4a65c_init_da8c8_0 : decode cJx4a65c_init_da8c8 0 = .ok (.aload_n 0, 1) := by decide +kernel
theorem dJx4a65c_init_da8c8_1 : decode cJx4a65c_init_da8c8 1 = .ok (.invokespecial 1, 3) := by decide +kernel
theorem dJx4a65c_init_da8c8_4 : decode cJx4a65c_init_da8c8 4 = .ok (.aload_n 0, 1) := by decide +kernel
theorem dJx4a65c_init_da8c8_5 : decode cJx4a65c_init_da8c8 5 = .ok (.getstatic 39, 3) := by decide +kernel
theorem dJx4a65c_init_da8c8_8 : decode cJx4a65c_init_da8c8 8 = .ok (.putfield 9, 3) := by decide +kernel
theorem dJx4a65c_init_da8c8_11 : decode cJx4a65c_init_da8c8 11 = .ok (.return_, 1) := by decide +kernel
set_option maxRecDepth 20000 in
theorem ggJx4a65c_grow_92f84_J8_newLength_cabcc : GoodIn wsJx4a65c_grow_92f84 wsJ8_newLength_cabcc := goodIn_r _ [11, 12, 4, 5, 6, 13, 14, 15, 10, 16] (by decide +kernel) (by decide +kernel)
set_option maxRecDepth 20000 in
theorem gJx4a65c_grow_92f84_J8_newLength_cabcc : GoodIn wsJx4a65c_grow_92f84 (va_wsS RJx4a65c 73 yJ8_newLength_cabcc wsJ8_newLength_cabcc) := goodIn_app (goodIn_of _ (by decide +kernel)) ggJx4a65c_grow_92f84_J8_newLength_cabcc
set_option maxRecDepth 20000 in
theorem ggJx4a65c_grow_92f84_J7_copyOf_1904c : GoodIn wsJx4a65c_grow_92f84 wsJ7_copyOf_1904c := goodIn_r _ [20, 21, 22, 23, 24, 25, 26, 19, 27, 28, 29, 30, 31, 5, 32, 33, 34, 35, 36] (by decide +kernel) (by decide +kernel)
set_option maxRecDepth 20000 in
theorem gJx4a65c_grow_92f84_J7_copyOf_1904c : GoodIn wsJx4a65c_grow_92f84 (va_wsS RJx4a65c 66 yJ7_copyOf_1904c wsJ7_copyOf_1904c) := goodIn_app (goodIn_of _ (by decide +kernel)) ggJx4a65c_grow_92f84_J7_copyOf_1904c
theorem dJx4a65c_grow_92f84_0 : decode cJx4a65c_grow_92f84 0 = .ok (.aload_n 0, 1) := by decide +kernel
theorem dJx4a65c_grow_92f84_1 : decode cJx4a65c_grow_92f84 1 = .ok (.getfield 9, 3) := by decide +kernel
theorem dJx4a65c_grow_92f84_4 : decode cJx4a65c_grow_92f84 4 = .ok (.arraylength, 1) := by decide +kernel
theorem dJx4a65c_grow_92f84_5 : decode cJx4a65c_grow_92f84 5 = .ok (.istore_n 2, 1) := by decide +kernel
theorem dJx4a65c_grow_92f84_6 : decode cJx4a65c_grow_92f84 6 = .ok (.iload_n 2, 1) := by decide +kernel
theorem dJx4a65c_grow_92f84_7 : decode cJx4a65c_grow_92f84 7 = .ok (.ifCond .gt 13, 3) := by decide +kernel
theorem dJx4a65c_grow_92f84_10 : decode cJx4a65c_grow_92f84 10 = .ok (.aload_n 0, 1) := by decide +kernel
theorem dJx4a65c_grow_92f84_11 : decode cJx4a65c_grow_92f84 11 = .ok (.getfield 9, 3) := by decide +kernel
theorem dJx4a65c_grow_92f84_14 : decode cJx4a65c_grow_92f84 14 = .ok (.getstatic 39, 3) := by decide +kernel
theorem dJx4a65c_grow_92f84_17 : decode cJx4a65c_grow_92f84 17 = .ok (.if_acmp .eq 28, 3) := by decide +kernel
theorem dJx4a65c_grow_92f84_20 : decode cJx4a65c_grow_92f84 20 = .ok (.iload_n 2, 1) := by decide +kernel
theorem dJx4a65c_grow_92f84_21 : decode cJx4a65c_grow_92f84 21 = .ok (.iload_n 1, 1) := by decide +kernel
theorem dJx4a65c_grow_92f84_22 : decode cJx4a65c_grow_92f84 22 = .ok (.iload_n 2, 1) := by decide +kernel
theorem dJx4a65c_grow_92f84_23 : decode cJx4a65c_grow_92f84 23 = .ok (.isub, 1) := by decide +kernel
theorem dJx4a65c_grow_92f84_24 : decode cJx4a65c_grow_92f84 24 = .ok (.iload_n 2, 1) := by decide +kernel
theorem dJx4a65c_grow_92f84_25 : decode cJx4a65c_grow_92f84 25 = .ok (.iconst 1, 1) := by decide +kernel
theorem dJx4a65c_grow_92f84_26 : decode cJx4a65c_grow_92f84 26 = .ok (.ishr, 1) := by decide +kernel
theorem dJx4a65c_grow_92f84_27 : decode cJx4a65c_grow_92f84 27 = .ok (.invokestatic 73, 3) := by decide +kernel
theorem dJx4a65c_grow_92f84_30 : decode cJx4a65c_grow_92f84 30 = .ok (.istore_n 3, 1) := by decide +kernel
theorem dJx4a65c_grow_92f84_31 : decode cJx4a65c_grow_92f84 31 = .ok (.aload_n 0, 1) := by decide +kernel
theorem dJx4a65c_grow_92f84_32 : decode cJx4a65c_grow_92f84 32 = .ok (.aload_n 0, 1) := by decide +kernel
theorem dJx4a65c_grow_92f84_33 : decode cJx4a65c_grow_92f84 33 = .ok (.getfield 9, 3) := by decide +kernel
theorem dJx4a65c_grow_92f84_36 : decode cJx4a65c_grow_92f84 36 = .ok (.iload_n 3, 1) := by decide +kernel
theorem dJx4a65c_grow_92f84_37 : decode cJx4a65c_grow_92f84 37 = .ok (.invokestatic 66, 3) := by decide +kernel
theorem dJx4a65c_grow_92f84_40 : decode cJx4a65c_grow_92f84 40 = .ok (.dup_x1, 1) := by decide +kernel
theorem dJx4a65c_grow_92f84_41 : decode cJx4a65c_grow_92f84 41 = .ok (.putfield 9, 3) := by decide +kernel
theorem dJx4a65c_grow_92f84_44 : decode cJx4a65c_grow_92f84 44 = .ok (.areturn, 1) := by decide +kernel
theorem dJx4a65c_grow_92f84_45 : decode cJx4a65c_grow_92f84 45 = .ok (.aload_n 0, 1) := by decide +kernel
theorem dJx4a65c_grow_92f84_46 : decode cJx4a65c_grow_92f84 46 = .ok (.bipush 10, 2) := by decide +kernel
theorem dJx4a65c_grow_92f84_48 : decode cJx4a65c_grow_92f84 48 = .ok (.iload_n 1, 1) := by decide +kernel
theorem dJx4a65c_grow_92f84_49 : decode cJx4a65c_grow_92f84 49 = .ok (.invokestatic 79, 3) := by decide +kernel
theorem dJx4a65c_grow_92f84_52 : decode cJx4a65c_grow_92f84 52 = .ok (.anewarray 7, 3) := by decide +kernel
theorem dJx4a65c_grow_92f84_55 : decode cJx4a65c_grow_92f84 55 = .ok (.dup_x1, 1) := by decide +kernel
theorem dJx4a65c_grow_92f84_56 : decode cJx4a65c_grow_92f84 56 = .ok (.putfield 9, 3) := by decide +kernel
theorem dJx4a65c_grow_92f84_59 : decode cJx4a65c_grow_92f84 59 = .ok (.areturn, 1) := by decide +kernel
set_option maxRecDepth 20000 in
theorem ggJx4a65c_grow_d5877_Jx4a65c_grow_92f84 : GoodIn wsJx4a65c_grow_d5877 wsJx4a65c_grow_92f84 := goodIn_r _ [6, 7, 8, 9, 10, 11, 12, 13, 14, 15, 16, 17, 18, 19, 20, 21, 22, 23, 24, 25, 26, 27, 28, 29, 30, 31, 32, 33, 34, 35, 36, 37, 38, 39, 40, 41, 42, 43, 44, 45] (by decide +kernel) (by decide +kernel)
set_option maxRecDepth 20000 in
theorem gJx4a65c_grow_d5877_Jx4a65c_grow_92f84 : GoodIn wsJx4a65c_grow_d5877 (wsV RJx4a65c 69 RJx4a65c yJx4a65c_grow_92f84 wsJx4a65c_grow_92f84) := goodIn_app (goodIn_of _ (by decide +kernel)) ggJx4a65c_grow_d5877_Jx4a65c_grow_92f84
theorem dJx4a65c_grow_d5877_0 : decode cJx4a65c_grow_d5877 0 = .ok (.aload_n 0, 1) := by decide +kernel
theorem dJx4a65c_grow_d5877_1 : decode cJx4a65c_grow_d5877 1 = .ok (.aload_n 0, 1) := by decide +kernel
theorem dJx4a65c_grow_d5877_2 : decode cJx4a65c_grow_d5877 2 = .ok (.getfield 48, 3) := by decide +kernel
theorem dJx4a65c_grow_d5877_5 : decode cJx4a65c_grow_d5877 5 = .ok (.iconst 1, 1) := by decide +kernel
theorem dJx4a65c_grow_d5877_6 : decode cJx4a65c_grow_d5877 6 = .ok (.iadd, 1) := by decide +kernel
theorem dJx4a65c_grow_d5877_7 : decode cJx4a65c_grow_d5877 7 = .ok (.invokevirtual 69, 3) := by decide +kernel
theorem dJx4a65c_grow_d5877_10 : decode cJx4a65c_grow_d5877 10 = .ok (.areturn, 1) := by decide +kernel
theorem dJx4a65c_size_8abf5_0 : decode cJx4a65c_size_8abf5 0 = .ok (.aload_n 0, 1) := by decide +kernel
theorem dJx4a65c_size_8abf5_1 : decode cJx4a65c_size_8abf5 1 = .ok (.getfield 48, 3) := by decide +kernel
theorem dJx4a65c_size_8abf5_4 : decode cJx4a65c_size_8abf5 4 = .ok (.ireturn, 1) := by decide +kernel
theorem dJx4a65c_elementData_915e3_0 : decode cJx4a65c_elementData_915e3 0 = .ok (.aload_n 0, 1) := by decide +kernel
theorem dJx4a65c_elementData_915e3_1 : decode cJx4a65c_elementData_915e3 1 = .ok (.getfield 9, 3) := by decide +kernel
theorem dJx4a65c_elementData_915e3_4 : decode cJx4a65c_elementData_915e3 4 = .ok (.iload_n 1, 1) := by decide +kernel
theorem dJx4a65c_elementData_915e3_5 : decode cJx4a65c_elementData_915e3 5 = .ok (.aaload, 1) := by decide +kernel
theorem dJx4a65c_elementData_915e3_6 : decode cJx4a65c_elementData_915e3 6 = .ok (.areturn, 1) := by decide +kernel
set_option maxRecDepth 20000 in
theorem ggJx4a65c_get_915e3_J15_checkIndex_7cf53 : GoodIn wsJx4a65c_get_915e3 wsJ15_checkIndex_7cf53 := goodIn_r _ [5, 6, 7, 8, 9] (by decide +kernel) (by decide +kernel)
set_option maxRecDepth 20000 in
theorem gJx4a65c_get_915e3_J15_checkIndex_7cf53 : GoodIn wsJx4a65c_get_915e3 (va_wsS RJx4a65c 118 yJ15_checkIndex_7cf53 wsJ15_checkIndex_7cf53) := goodIn_app (goodIn_of _ (by decide +kernel)) ggJx4a65c_get_915e3_J15_checkIndex_7cf53
set_option maxRecDepth 20000 in
theorem ggJx4a65c_get_915e3_Jx4a65c_elementData_915e3 : GoodIn wsJx4a65c_get_915e3 wsJx4a65c_elementData_915e3 := goodIn_r _ [14, 15, 16, 17, 18] (by decide +kernel) (by decide +kernel)
set_option maxRecDepth 20000 in
theorem gJx4a65c_get_915e3_Jx4a65c_elementData_915e3 : GoodIn wsJx4a65c_get_915e3 (wsV RJx4a65c 123 RJx4a65c yJx4a65c_elementData_915e3 wsJx4a65c_elementData_915e3) := goodIn_app (goodIn_of _ (by decide +kernel)) ggJx4a65c_get_915e3_Jx4a65c_elementData_915e3
theorem dJx4a65c_get_915e3_0 : decode cJx4a65c_get_915e3 0 = .ok (.iload_n 1, 1) := by decide +kernel
theorem dJx4a65c_get_915e3_1 : decode cJx4a65c_get_915e3 1 = .ok (.aload_n 0, 1) := by decide +kernel
theorem dJx4a65c_get_915e3_2 : decode cJx4a65c_get_915e3 2 = .ok (.getfield 48, 3) := by decide +kernel
theorem dJx4a65c_get_915e3_5 : decode cJx4a65c_get_915e3 5 = .ok (.invokestatic 118, 3) := by decide +kernel
theorem dJx4a65c_get_915e3_8 : decode cJx4a65c_get_915e3 8 = .ok (.pop, 1) := by decide +kernel
theorem dJx4a65c_get_915e3_9 : decode cJx4a65c_get_915e3 9 = .ok (.aload_n 0, 1) := by decide +kernel
theorem dJx4a65c_get_915e3_10 : decode cJx4a65c_get_915e3 10 = .ok (.iload_n 1, 1) := by decide +kernel
theorem dJx4a65c_get_915e3_11 : decode cJx4a65c_get_915e3 11 = .ok (.invokevirtual 123, 3) := by decide +kernel
theorem dJx4a65c_get_915e3_14 : decode cJx4a65c_get_915e3 14 = .ok (.areturn, 1) := by decide +kernel
set_option maxRecDepth 20000 in
theorem ggJx4a65c_add_72be8_Jx4a65c_grow_d5877 : GoodIn wsJx4a65c_add_72be8 wsJx4a65c_grow_d5877 := goodIn_r _ [6, 1, 7, 8, 9, 5, 10, 11, 12, 13, 14, 15, 16, 17, 18, 19, 20, 21, 22, 23, 24, 25, 26, 27, 28, 29, 30, 31, 32, 33, 34, 35, 36, 37, 38, 39, 40, 41, 42, 43, 44, 45, 46, 47, 48, 49] (by decide +kernel) (by decide +kernel)
set_option maxRecDepth 20000 in
theorem gJx4a65c_add_72be8_Jx4a65c_grow_d5877 : GoodIn wsJx4a65c_add_72be8 (wsV RJx4a65c 129 RJx4a65c yJx4a65c_grow_d5877 wsJx4a65c_grow_d5877) := goodIn_app (goodIn_of _ (by decide +kernel)) ggJx4a65c_add_72be8_Jx4a65c_grow_d5877
theorem dJx4a65c_add_72be8_0 : decode cJx4a65c_add_72be8 0 = .ok (.iload_n 3, 1) := by decide +kernel
theorem dJx4a65c_add_72be8_1 : decode cJx4a65c_add_72be8 1 = .ok (.aload_n 2, 1) := by decide +kernel
theorem dJx4a65c_add_72be8_2 : decode cJx4a65c_add_72be8 2 = .ok (.arraylength, 1) := by decide +kernel
theorem dJx4a65c_add_72be8_3 : decode cJx4a65c_add_72be8 3 = .ok (.if_icmp .ne 8, 3) := by decide +kernel
theorem dJx4a65c_add_72be8_6 : decode cJx4a65c_add_72be8 6 = .ok (.aload_n 0, 1) := by decide +kernel
theorem dJx4a65c_add_72be8_7 : decode cJx4a65c_add_72be8 7 = .ok (.invokevirtual 129, 3) := by decide +kernel
theorem dJx4a65c_add_72be8_10 : decode cJx4a65c_add_72be8 10 = .ok (.astore_n 2, 1) := by decide +kernel
theorem dJx4a65c_add_72be8_11 : decode cJx4a65c_add_72be8 11 = .ok (.aload_n 2, 1) := by decide +kernel
theorem dJx4a65c_add_72be8_12 : decode cJx4a65c_add_72be8 12 = .ok (.iload_n 3, 1) := by decide +kernel
theorem dJx4a65c_add_72be8_13 : decode cJx4a65c_add_72be8 13 = .ok (.aload_n 1, 1) := by decide +kernel
theorem dJx4a65c_add_72be8_14 : decode cJx4a65c_add_72be8 14 = .ok (.aastore, 1) := by decide +kernel
theorem dJx4a65c_add_72be8_15 : decode cJx4a65c_add_72be8 15 = .ok (.aload_n 0, 1) := by decide +kernel
theorem dJx4a65c_add_72be8_16 : decode cJx4a65c_add_72be8 16 = .ok (.iload_n 3, 1) := by decide +kernel
theorem dJx4a65c_add_72be8_17 : decode cJx4a65c_add_72be8 17 = .ok (.iconst 1, 1) := by decide +kernel
theorem dJx4a65c_add_72be8_18 : decode cJx4a65c_add_72be8 18 = .ok (.iadd, 1) := by decide +kernel
theorem dJx4a65c_add_72be8_19 : decode cJx4a65c_add_72be8 19 = .ok (.putfield 48, 3) := by decide +kernel
theorem dJx4a65c_add_72be8_22 : decode cJx4a65c_add_72be8 22 = .ok (.return_, 1) := by decide +kernel
set_option maxRecDepth 20000 in
theorem ggJx4a65c_add_9ea2d_Jx4a65c_add_72be8 : GoodIn wsJx4a65c_add_9ea2d wsJx4a65c_add_72be8 := goodIn_r _ [9, 4, 10, 11, 12, 8, 13, 14, 15, 16, 17, 3, 18, 19, 20, 21, 22, 23, 24, 25, 26, 27, 28, 29, 30, 31, 32, 33, 34, 35, 36, 37, 38, 39, 40, 41, 42, 43, 44, 45, 46, 47, 48, 49, 50, 51, 52, 53, 54, 55] (by decide +kernel) (by decide +kernel)
set_option maxRecDepth 20000 in
theorem gJx4a65c_add_9ea2d_Jx4a65c_add_72be8 : GoodIn wsJx4a65c_add_9ea2d (wsV RJx4a65c 131 RJx4a65c yJx4a65c_add_72be8 wsJx4a65c_add_72be8) := goodIn_app (goodIn_of _ (by decide +kernel)) ggJx4a65c_add_9ea2d_Jx4a65c_add_72be8
theorem dJx4a65c_add_9ea2d_0 : decode cJx4a65c_add_9ea2d 0 = .ok (.aload_n 0, 1) := by decide +kernel
theorem dJx4a65c_add_9ea2d_1 : decode cJx4a65c_add_9ea2d 1 = .ok (.dup, 1) := by decide +kernel
theorem dJx4a65c_add_9ea2d_2 : decode cJx4a65c_add_9ea2d 2 = .ok (.getfield 63, 3) := by decide +kernel
theorem dJx4a65c_add_9ea2d_5 : decode cJx4a65c_add_9ea2d 5 = .ok (.iconst 1, 1) := by decide +kernel
theorem dJx4a65c_add_9ea2d_6 : decode cJx4a65c_add_9ea2d 6 = .ok (.iadd, 1) := by decide +kernel
theorem dJx4a65c_add_9ea2d_7 : decode cJx4a65c_add_9ea2d 7 = .ok (.putfield 63, 3) := by decide +kernel
theorem dJx4a65c_add_9ea2d_10 : decode cJx4a65c_add_9ea2d 10 = .ok (.aload_n 0, 1) := by decide +kernel
theorem dJx4a65c_add_9ea2d_11 : decode cJx4a65c_add_9ea2d 11 = .ok (.aload_n 1, 1) := by decide +kernel
theorem dJx4a65c_add_9ea2d_12 : decode cJx4a65c_add_9ea2d 12 = .ok (.aload_n 0, 1) := by decide +kernel
theorem dJx4a65c_add_9ea2d_13 : decode cJx4a65c_add_9ea2d 13 = .ok (.getfield 9, 3) := by decide +kernel
theorem dJx4a65c_add_9ea2d_16 : decode cJx4a65c_add_9ea2d 16 = .ok (.aload_n 0, 1) := by decide +kernel
theorem dJx4a65c_add_9ea2d_17 : decode cJx4a65c_add_9ea2d 17 = .ok (.getfield 48, 3) := by decide +kernel
theorem dJx4a65c_add_9ea2d_20 : decode cJx4a65c_add_9ea2d 20 = .ok (.invokevirtual 131, 3) := by decide +kernel
theorem dJx4a65c_add_9ea2d_23 : decode cJx4a65c_add_9ea2d 23 = .ok (.iconst 1, 1) := by decide +kernel
theorem dJx4a65c_add_9ea2d_24 : decode cJx4a65c_add_9ea2d 24 = .ok (.ireturn, 1) := by decide +kernel
set_option maxRecDepth 20000 in
theorem ggJ7_copyOf_1904c_J7_copyOf_6403c : GoodIn wsJ7_copyOf_1904c wsJ7_copyOf_6403c := goodIn_r _ [8, 9, 10, 11, 12, 13, 14, 15, 16, 17, 18] (by decide +kernel) (by decide +kernel)
set_option maxRecDepth 20000 in
theorem gJ7_copyOf_1904c_J7_copyOf_6403c : GoodIn wsJ7_copyOf_1904c (va_wsS RJ7 300 yJ7_copyOf_6403c wsJ7_copyOf_6403c) := goodIn_app (goodIn_of _ (by decide +kernel)) ggJ7_copyOf_1904c_J7_copyOf_6403c
theorem dJ7_copyOf_1904c_0 : decode cJ7_copyOf_1904c 0 = .ok (.aload_n 0, 1) := by decide +kernel
theorem dJ7_copyOf_1904c_1 : decode cJ7_copyOf_1904c 1 = .ok (.iload_n 1, 1) := by decide +kernel
theorem dJ7_copyOf_1904c_2 : decode cJ7_copyOf_1904c 2 = .ok (.aload_n 0, 1) := by decide +kernel
theorem dJ7_copyOf_1904c_3 : decode cJ7_copyOf_1904c 3 = .ok (.invokevirtual 86, 3) := by decide +kernel
theorem dJ7_copyOf_1904c_6 : decode cJ7_copyOf_1904c 6 = .ok (.invokestatic 300, 3) := by decide +kernel
theorem dJ7_copyOf_1904c_9 : decode cJ7_copyOf_1904c 9 = .ok (.areturn, 1) := by decide +kernel
theorem dJ7_copyOf_6403c_0 : decode cJ7_copyOf_6403c 0 = .ok (.aload_n 2, 1) := by decide +kernel
theorem dJ7_copyOf_6403c_1 : decode cJ7_copyOf_6403c 1 = .ok (.ldc 110, 2) := by decide +kernel
theorem dJ7_copyOf_6403c_3 : decode cJ7_copyOf_6403c 3 = .ok (.if_acmp .ne 10, 3) := by decide +kernel
theorem dJ7_copyOf_6403c_6 : decode cJ7_copyOf_6403c 6 = .ok (.iload_n 1, 1) := by decide +kernel
theorem dJ7_copyOf_6403c_7 : decode cJ7_copyOf_6403c 7 = .ok (.anewarray 2, 3) := by decide +kernel
theorem dJ7_copyOf_6403c_10 : decode cJ7_copyOf_6403c 10 = .ok (.goto 14, 3) := by decide +kernel
theorem dJ7_copyOf_6403c_13 : decode cJ7_copyOf_6403c 13 = .ok (.aload_n 2, 1) := by decide +kernel
theorem dJ7_copyOf_6403c_14 : decode cJ7_copyOf_6403c 14 = .ok (.invokevirtual 90, 3) := by decide +kernel
theorem dJ7_copyOf_6403c_17 : decode cJ7_copyOf_6403c 17 = .ok (.iload_n 1, 1) := by decide +kernel
theorem dJ7_copyOf_6403c_18 : decode cJ7_copyOf_6403c 18 = .ok (.invokestatic 95, 3) := by decide +kernel
theorem dJ7_copyOf_6403c_21 : decode cJ7_copyOf_6403c 21 = .ok (.checkcast 110, 3) := by decide +kernel
theorem dJ7_copyOf_6403c_24 : decode cJ7_copyOf_6403c 24 = .ok (.astore_n 3, 1) := by decide +kernel
theorem dJ7_copyOf_6403c_25 : decode cJ7_copyOf_6403c 25 = .ok (.aload_n 0, 1) := by decide +kernel
theorem dJ7_copyOf_6403c_26 : decode cJ7_copyOf_6403c 26 = .ok (.iconst 0, 1) := by decide +kernel
theorem dJ7_copyOf_6403c_27 : decode cJ7_copyOf_6403c 27 = .ok (.aload_n 3, 1) := by decide +kernel
theorem dJ7_copyOf_6403c_28 : decode cJ7_copyOf_6403c 28 = .ok (.iconst 0, 1) := by decide +kernel
theorem dJ7_copyOf_6403c_29 : decode cJ7_copyOf_6403c 29 = .ok (.aload_n 0, 1) := by decide +kernel
theorem dJ7_copyOf_6403c_30 : decode cJ7_copyOf_6403c 30 = .ok (.arraylength, 1) := by decide +kernel
theorem dJ7_copyOf_6403c_31 : decode cJ7_copyOf_6403c 31 = .ok (.iload_n 1, 1) := by decide +kernel
theorem dJ7_copyOf_6403c_32 : decode cJ7_copyOf_6403c 32 = .ok (.invokestatic 304, 3) := by decide +kernel
theorem dJ7_copyOf_6403c_35 : decode cJ7_copyOf_6403c 35 = .ok (.invokestatic 150, 3) := by decide +kernel
theorem dJ7_copyOf_6403c_38 : decode cJ7_copyOf_6403c 38 = .ok (.aload_n 3, 1) := by decide +kernel
theorem dJ7_copyOf_6403c_39 : decode cJ7_copyOf_6403c 39 = .ok (.areturn, 1) := by decide +kernel
set_option maxRecDepth 20000 in
theorem ggJ15_checkIndex_7cf53_J3_checkIndex_8e157 : GoodIn wsJ15_checkIndex_7cf53 wsJ3_checkIndex_8e157 := goodIn_r _ [4] (by decide +kernel) (by decide +kernel)
set_option maxRecDepth 20000 in
theorem gJ15_checkIndex_7cf53_J3_checkIndex_8e157 : GoodIn wsJ15_checkIndex_7cf53 (va_wsS RJ15 105 yJ3_checkIndex_8e157 wsJ3_checkIndex_8e157) := goodIn_app (goodIn_of _ (by decide +kernel)) ggJ15_checkIndex_7cf53_J3_checkIndex_8e157
theorem dJ15_checkIndex_7cf53_0 : decode cJ15_checkIndex_7cf53 0 = .ok (.iload_n 0, 1) := by decide +kernel
theorem dJ15_checkIndex_7cf53_1 : decode cJ15_checkIndex_7cf53 1 = .ok (.iload_n 1, 1) := by decide +kernel
theorem dJ15_checkIndex_7cf53_2 : decode cJ15_checkIndex_7cf53 2 = .ok (.aconst_null, 1) := by decide +kernel
theorem dJ15_checkIndex_7cf53_3 : decode cJ15_checkIndex_7cf53 3 = .ok (.invokestatic 105, 3) := by decide +kernel
theorem dJ15_checkIndex_7cf53_6 : decode cJ15_checkIndex_7cf53 6 = .ok (.ireturn, 1) := by decide +kernel
set_option maxRecDepth 20000 in
theorem ggJ8_newLength_cabcc_J8_hugeLength_7cf53 : GoodIn wsJ8_newLength_cabcc wsJ8_hugeLength_7cf53 := goodIn_r _ [9, 5] (by decide +kernel) (by decide +kernel)
set_option maxRecDepth 20000 in
theorem gJ8_newLength_cabcc_J8_hugeLength_7cf53 : GoodIn wsJ8_newLength_cabcc (va_wsS RJ8 201 yJ8_hugeLength_7cf53 wsJ8_hugeLength_7cf53) := goodIn_app (goodIn_of _ (by decide +kernel)) ggJ8_newLength_cabcc_J8_hugeLength_7cf53
theorem dJ8_newLength_cabcc_0 : decode cJ8_newLength_cabcc 0 = .ok (.iload_n 0, 1) := by decide +kernel
theorem dJ8_newLength_cabcc_1 : decode cJ8_newLength_cabcc 1 = .ok (.iload_n 1, 1) := by decide +kernel
theorem dJ8_newLength_cabcc_2 : decode cJ8_newLength_cabcc 2 = .ok (.iload_n 2, 1) := by decide +kernel
theorem dJ8_newLength_cabcc_3 : decode cJ8_newLength_cabcc 3 = .ok (.invokestatic 194, 3) := by decide +kernel
theorem dJ8_newLength_cabcc_6 : decode cJ8_newLength_cabcc 6 = .ok (.iadd, 1) := by decide +kernel
theorem dJ8_newLength_cabcc_7 : decode cJ8_newLength_cabcc 7 = .ok (.istore_n 3, 1) := by decide +kernel
theorem dJ8_newLength_cabcc_8 : decode cJ8_newLength_cabcc 8 = .ok (.iconst 0, 1) := by decide +kernel
theorem dJ8_newLength_cabcc_9 : decode cJ8_newLength_cabcc 9 = .ok (.iload_n 3, 1) := by decide +kernel
theorem dJ8_newLength_cabcc_10 : decode cJ8_newLength_cabcc 10 = .ok (.if_icmp .ge 11, 3) := by decide +kernel
theorem dJ8_newLength_cabcc_13 : decode cJ8_newLength_cabcc 13 = .ok (.iload_n 3, 1) := by decide +kernel
theorem dJ8_newLength_cabcc_14 : decode cJ8_newLength_cabcc 14 = .ok (.ldc 200, 2) := by decide +kernel
theorem dJ8_newLength_cabcc_16 : decode cJ8_newLength_cabcc 16 = .ok (.if_icmp .gt 5, 3) := by decide +kernel
theorem dJ8_newLength_cabcc_19 : decode cJ8_newLength_cabcc 19 = .ok (.iload_n 3, 1) := by decide +kernel
theorem dJ8_newLength_cabcc_20 : decode cJ8_newLength_cabcc 20 = .ok (.ireturn, 1) := by decide +kernel
theorem dJ8_newLength_cabcc_21 : decode cJ8_newLength_cabcc 21 = .ok (.iload_n 0, 1) := by decide +kernel
theorem dJ8_newLength_cabcc_22 : decode cJ8_newLength_cabcc 22 = .ok (.iload_n 1, 1) := by decide +kernel
theorem dJ8_newLength_cabcc_23 : decode cJ8_newLength_cabcc 23 = .ok (.invokestatic 201, 3) := by decide +kernel
theorem dJ8_newLength_cabcc_26 : decode cJ8_newLength_cabcc 26 = .ok (.ireturn, 1) := by decide +kernel
theorem dJ8_hugeLength_7cf53_0 : decode cJ8_hugeLength_7cf53 0 = .ok (.iload_n 0, 1) := by decide +kernel
theorem dJ8_hugeLength_7cf53_1 : decode cJ8_hugeLength_7cf53 1 = .ok (.iload_n 1, 1) := by decide +kernel
theorem dJ8_hugeLength_7cf53_2 : decode cJ8_hugeLength_7cf53 2 = .ok (.iadd, 1) := by decide +kernel
theorem dJ8_hugeLength_7cf53_3 : decode cJ8_hugeLength_7cf53 3 = .ok (.istore_n 2, 1) := by decide +kernel
theorem dJ8_hugeLength_7cf53_4 : decode cJ8_hugeLength_7cf53 4 = .ok (.iload_n 2, 1) := by decide +kernel
theorem dJ8_hugeLength_7cf53_5 : decode cJ8_hugeLength_7cf53 5 = .ok (.ifCond .ge 44, 3) := by decide +kernel
theorem dJ8_hugeLength_7cf53_8 : decode cJ8_hugeLength_7cf53 8 = .ok (.new 204, 3) := by decide +kernel
theorem dJ8_hugeLength_7cf53_11 : decode cJ8_hugeLength_7cf53 11 = .ok (.dup, 1) := by decide +kernel
theorem dJ8_hugeLength_7cf53_12 : decode cJ8_hugeLength_7cf53 12 = .ok (.new 89, 3) := by decide +kernel
theorem dJ8_hugeLength_7cf53_15 : decode cJ8_hugeLength_7cf53 15 = .ok (.dup, 1) := by decide +kernel
theorem dJ8_hugeLength_7cf53_16 : decode cJ8_hugeLength_7cf53 16 = .ok (.invokespecial 91, 3) := by decide +kernel
theorem dJ8_hugeLength_7cf53_19 : decode cJ8_hugeLength_7cf53 19 = .ok (.ldc 206, 2) := by decide +kernel
theorem dJ8_hugeLength_7cf53_21 : decode cJ8_hugeLength_7cf53 21 = .ok (.invokevirtual 94, 3) := by decide +kernel
theorem dJ8_hugeLength_7cf53_24 : decode cJ8_hugeLength_7cf53 24 = .ok (.iload_n 0, 1) := by decide +kernel
theorem dJ8_hugeLength_7cf53_25 : decode cJ8_hugeLength_7cf53 25 = .ok (.invokevirtual 98, 3) := by decide +kernel
theorem dJ8_hugeLength_7cf53_28 : decode cJ8_hugeLength_7cf53 28 = .ok (.ldc 208, 2) := by decide +kernel
theorem dJ8_hugeLength_7cf53_30 : decode cJ8_hugeLength_7cf53 30 = .ok (.invokevirtual 94, 3) := by decide +kernel
theorem dJ8_hugeLength_7cf53_33 : decode cJ8_hugeLength_7cf53 33 = .ok (.iload_n 1, 1) := by decide +kernel
theorem dJ8_hugeLength_7cf53_34 : decode cJ8_hugeLength_7cf53 34 = .ok (.invokevirtual 98, 3) := by decide +kernel
theorem dJ8_hugeLength_7cf53_37 : decode cJ8_hugeLength_7cf53 37 = .ok (.ldc 210, 2) := by decide +kernel
theorem dJ8_hugeLength_7cf53_39 : decode cJ8_hugeLength_7cf53 39 = .ok (.invokevirtual 94, 3) := by decide +kernel
theorem dJ8_hugeLength_7cf53_42 : decode cJ8_hugeLength_7cf53 42 = .ok (.invokevirtual 101, 3) := by decide +kernel
theorem dJ8_hugeLength_7cf53_45 : decode cJ8_hugeLength_7cf53 45 = .ok (.invokespecial 212, 3) := by decide +kernel
theorem dJ8_hugeLength_7cf53_48 : decode cJ8_hugeLength_7cf53 48 = .ok (.athrow, 1) := by decide +kernel
theorem dJ8_hugeLength_7cf53_49 : decode cJ8_hugeLength_7cf53 49 = .ok (.iload_n 2, 1) := by decide +kernel
theorem dJ8_hugeLength_7cf53_50 : decode cJ8_hugeLength_7cf53 50 = .ok (.ldc 200, 2) := by decide +kernel
theorem dJ8_hugeLength_7cf53_52 : decode cJ8_hugeLength_7cf53 52 = .ok (.if_icmp .gt 6, 3) := by decide +kernel
theorem dJ8_hugeLength_7cf53_55 : decode cJ8_hugeLength_7cf53 55 = .ok (.ldc 200, 2) := by decide +kernel
theorem dJ8_hugeLength_7cf53_57 : decode cJ8_hugeLength_7cf53 57 = .ok (.ireturn, 1) := by decide +kernel
theorem dJ8_hugeLength_7cf53_58 : decode cJ8_hugeLength_7cf53 58 = .ok (.iload_n 2, 1) := by decide +kernel
theorem dJ8_hugeLength_7cf53_59 : decode cJ8_hugeLength_7cf53 59 = .ok (.ireturn, 1) := by decide +kernel
theorem dJ3_checkIndex_8e157_0 : decode cJ3_checkIndex_8e157 0 = .ok (.iload_n 0, 1) := by decide +kernel
theorem dJ3_checkIndex_8e157_1 : decode cJ3_checkIndex_8e157 1 = .ok (.ifCond .lt 8, 3) := by decide +kernel
theorem dJ3_checkIndex_8e157_4 : decode cJ3_checkIndex_8e157 4 = .ok (.iload_n 0, 1) := by decide +kernel
theorem dJ3_checkIndex_8e157_5 : decode cJ3_checkIndex_8e157 5 = .ok (.iload_n 1, 1) := by decide +kernel
theorem dJ3_checkIndex_8e157_6 : decode cJ3_checkIndex_8e157 6 = .ok (.if_icmp .lt 10, 3) := by decide +kernel
theorem dJ3_checkIndex_8e157_9 : decode cJ3_checkIndex_8e157 9 = .ok (.aload_n 2, 1) := by decide +kernel
theorem dJ3_checkIndex_8e157_10 : decode cJ3_checkIndex_8e157 10 = .ok (.iload_n 0, 1) := by decide +kernel
theorem dJ3_checkIndex_8e157_11 : decode cJ3_checkIndex_8e157 11 = .ok (.iload_n 1, 1) := by decide +kernel
theorem dJ3_checkIndex_8e157_12 : decode cJ3_checkIndex_8e157 12 = .ok (.invokestatic 95, 3) := by decide +kernel
theorem dJ3_checkIndex_8e157_15 : decode cJ3_checkIndex_8e157 15 = .ok (.athrow, 1) := by decide +kernel
theorem dJ3_checkIndex_8e157_16 : decode cJ3_checkIndex_8e157 16 = .ok (.iload_n 0, 1) := by decide +kernel
theorem dJ3_checkIndex_8e157_17 : decode cJ3_checkIndex_8e157 17 = .ok (.ireturn, 1) := by decide +kernel
end
section
set_option maxRecDepth 20000 in
theorem ggX2_init_Jx4a65c_init_da8c8 : GoodIn wsX2_init wsJx4a65c_init_da8c8 := goodIn_r _ [16, 17, 18, 19, 20, 21, 22, 23, 24, 25, 26, 27, 28, 2, 3, 43, 44, 45] (by decide +kernel) (by decide +kernel)
set_option maxRecDepth 20000 in
theorem gX2_init_Jx4a65c_init_da8c8 : GoodIn wsX2_init (wsJx4a65c_init_da8c8) := ggX2_init_Jx4a65c_init_da8c8
set_option maxRecDepth 20000 in
theorem ggX2_init_X1_init : GoodIn wsX2_init wsX1_init := goodIn_r _ [30, 31, 2, 3, 32, 33, 34, 35, 36, 37, 38, 39, 40, 41, 42, 50, 51, 52, 53, 54, 55, 56, 57, 58, 59] (by decide +kernel) (by decide +kernel)
set_option maxRecDepth 20000 in
theorem gX2_init_X1_init_n18 : GoodIn wsX2_init (wsX1_init) := ggX2_init_X1_init
theorem dX2_init_0 : decode cX2_init 0 = .ok (.aload_n 0, 1) := by decide +kernel
theorem dX2_init_1 : decode cX2_init 1 = .ok (.invokespecial 1, 3) := by decide +kernel
theorem dX2_init_4 : decode cX2_init 4 = .ok (.aload_n 0, 1) := by decide +kernel
theorem dX2_init_5 : decode cX2_init 5 = .ok (.new 7, 3) := by decide +kernel
theorem dX2_init_8 : decode cX2_init 8 = .ok (.dup, 1) := by decide +kernel
theorem dX2_init_9 : decode cX2_init 9 = .ok (.invokespecial 9, 3) := by decide +kernel
theorem dX2_init_12 : decode cX2_init 12 = .ok (.putfield 10, 3) := by decide +kernel
theorem dX2_init_15 : decode cX2_init 15 = .ok (.aload_n 0, 1) := by decide +kernel
theorem dX2_init_16 : decode cX2_init 16 = .ok (.new 16, 3) := by decide +kernel
theorem dX2_init_19 : decode cX2_init 19 = .ok (.dup, 1) := by decide +kernel
theorem dX2_init_20 : decode cX2_init 20 = .ok (.invokespecial 18, 3) := by decide +kernel
theorem dX2_init_23 : decode cX2_init 23 = .ok (.putfield 19, 3) := by decide +kernel
theorem dX2_init_26 : decode cX2_init 26 = .ok (.aload_n 0, 1) := by decide +kernel
theorem dX2_init_27 : decode cX2_init 27 = .ok (.iconst 0, 1) := by decide +kernel
theorem dX2_init_28 : decode cX2_init 28 = .ok (.putfield 23, 3) := by decide +kernel
theorem dX2_init_31 : decode cX2_init 31 = .ok (.aload_n 0, 1) := by decide +kernel
theorem dX2_init_32 : decode cX2_init 32 = .ok (.iconst 0, 1) := by decide +kernel
theorem dX2_init_33 : decode cX2_init 33 = .ok (.putfield 27, 3) := by decide +kernel
theorem dX2_init_36 : decode cX2_init 36 = .ok (.return_, 1) := by decide +kernel
set_option maxRecDepth 20000 in
theorem ggX2_feeder_X2_requireWithin : GoodIn wsX2_feeder wsX2_requireWithin := goodIn_ca (goodIn_r _ [10, 11, 12] (by decide +kernel) (by decide +kernel)) (goodIn_sub (fun _ h => List.mem_cons_of_mem _ (List.mem_append_right _ h)) (by decide +kernel))
set_option maxRecDepth 20000 in
theorem gX2_feeder_X2_requireWithin : GoodIn wsX2_feeder (va_wsS RX2 30 yX2_requireWithin wsX2_requireWithin) := goodIn_app (goodIn_of _ (by decide +kernel)) ggX2_feeder_X2_requireWithin
set_option maxRecDepth 20000 in
theorem ggX2_feeder_Jx4a65c_size_8abf5 : GoodIn wsX2_feeder wsJx4a65c_size_8abf5 := goodIn_r _ [17, 18, 96, 97, 98] (by decide +kernel) (by decide +kernel)
set_option maxRecDepth 20000 in
theorem gX2_feeder_Jx4a65c_size_8abf5 : GoodIn wsX2_feeder (wsV RX2 34 RJx4a65c yJx4a65c_size_8abf5 wsJx4a65c_size_8abf5) := goodIn_app (goodIn_of _ (by decide +kernel)) ggX2_feeder_Jx4a65c_size_8abf5
set_option maxRecDepth 20000 in
theorem ggX2_feeder_X0_init : GoodIn wsX2_feeder wsX0_init := goodIn_r _ [20, 21, 22, 23, 24, 25, 26, 27, 28, 29, 30, 89, 90, 91, 92, 93, 94, 95] (by decide +kernel) (by decide +kernel)
set_option maxRecDepth 20000 in
theorem gX2_feeder_X0_init_n47 : GoodIn wsX2_feeder (wsX0_init) := ggX2_feeder_X0_init
set_option maxRecDepth 20000 in
theorem ggX2_feeder_Jx4a65c_add_9ea2d : GoodIn wsX2_feeder wsJx4a65c_add_9ea2d := goodIn_r _ [34, 35, 36, 37, 18, 38, 39, 40, 16, 41, 42, 43, 44, 45, 46, 47, 48, 49, 50, 51, 52, 53, 54, 55, 56, 57, 58, 59, 60, 61, 62, 63, 64, 65, 66, 67, 68, 69, 70, 71, 72, 73, 74, 75, 76, 77, 78, 79, 80, 81, 82, 83, 84, 96, 97, 98] (by decide +kernel) (by decide +kernel)
set_option maxRecDepth 20000 in
theorem gX2_feeder_Jx4a65c_add_9ea2d : GoodIn wsX2_feeder (wsV RX2 50 RJx4a65c yJx4a65c_add_9ea2d wsJx4a65c_add_9ea2d) := goodIn_app (goodIn_of _ (by decide +kernel)) ggX2_feeder_Jx4a65c_add_9ea2d
theorem dX2_feeder_0 : decode cX2_feeder 0 = .ok (.iload_n 1, 1) := by decide +kernel
theorem dX2_feeder_1 : decode cX2_feeder 1 = .ok (.iconst 1, 1) := by decide +kernel
theorem dX2_feeder_2 : decode cX2_feeder 2 = .ok (.sipush 999, 3) := by decide +kernel
theorem dX2_feeder_5 : decode cX2_feeder 5 = .ok (.invokestatic 30, 3) := by decide +kernel
theorem dX2_feeder_8 : decode cX2_feeder 8 = .ok (.iload_n 3, 1) := by decide +kernel
theorem dX2_feeder_9 : decode cX2_feeder 9 = .ok (.iconst 0, 1) := by decide +kernel
theorem dX2_feeder_10 : decode cX2_feeder 10 = .ok (.iconst 3, 1) := by decide +kernel
theorem dX2_feeder_11 : decode cX2_feeder 11 = .ok (.invokestatic 30, 3) := by decide +kernel
theorem dX2_feeder_14 : decode cX2_feeder 14 = .ok (.aload_n 0, 1) := by decide +kernel
theorem dX2_feeder_15 : decode cX2_feeder 15 = .ok (.getfield 10, 3) := by decide +kernel
theorem dX2_feeder_18 : decode cX2_feeder 18 = .ok (.invokevirtual 34, 3) := by decide +kernel
theorem dX2_feeder_21 : decode cX2_feeder 21 = .ok (.bipush 12, 2) := by decide +kernel
theorem dX2_feeder_23 : decode cX2_feeder 23 = .ok (.if_icmp .lt 13, 3) := by decide +kernel
theorem dX2_feeder_26 : decode cX2_feeder 26 = .ok (.new 38, 3) := by decide +kernel
theorem dX2_feeder_29 : decode cX2_feeder 29 = .ok (.dup, 1) := by decide +kernel
theorem dX2_feeder_30 : decode cX2_feeder 30 = .ok (.ldc 40, 2) := by decide +kernel
theorem dX2_feeder_32 : decode cX2_feeder 32 = .ok (.invokespecial 42, 3) := by decide +kernel
theorem dX2_feeder_35 : decode cX2_feeder 35 = .ok (.athrow, 1) := by decide +kernel
theorem dX2_feeder_36 : decode cX2_feeder 36 = .ok (.aload_n 0, 1) := by decide +kernel
theorem dX2_feeder_37 : decode cX2_feeder 37 = .ok (.getfield 10, 3) := by decide +kernel
theorem dX2_feeder_40 : decode cX2_feeder 40 = .ok (.new 45, 3) := by decide +kernel
theorem dX2_feeder_43 : decode cX2_feeder 43 = .ok (.dup, 1) := by decide +kernel
theorem dX2_feeder_44 : decode cX2_feeder 44 = .ok (.iload_n 1, 1) := by decide +kernel
theorem dX2_feeder_45 : decode cX2_feeder 45 = .ok (.iload_n 2, 1) := by decide +kernel
theorem dX2_feeder_46 : decode cX2_feeder 46 = .ok (.iload_n 3, 1) := by decide +kernel
theorem dX2_feeder_47 : decode cX2_feeder 47 = .ok (.invokespecial 47, 3) := by decide +kernel
theorem dX2_feeder_50 : decode cX2_feeder 50 = .ok (.invokevirtual 50, 3) := by decide +kernel
theorem dX2_feeder_53 : decode cX2_feeder 53 = .ok (.pop, 1) := by decide +kernel
theorem dX2_feeder_54 : decode cX2_feeder 54 = .ok (.aload_n 0, 1) := by decide +kernel
theorem dX2_feeder_55 : decode cX2_feeder 55 = .ok (.getfield 10, 3) := by decide +kernel
theorem dX2_feeder_58 : decode cX2_feeder 58 = .ok (.invokevirtual 34, 3) := by decide +kernel
theorem dX2_feeder_61 : decode cX2_feeder 61 = .ok (.iconst 1, 1) := by decide +kernel
theorem dX2_feeder_62 : decode cX2_feeder 62 = .ok (.isub, 1) := by decide +kernel
theorem dX2_feeder_63 : decode cX2_feeder 63 = .ok (.ireturn, 1) := by decide +kernel
set_option maxRecDepth 20000 in
theorem ggX2_setSlack_X2_requireWithin : GoodIn wsX2_setSlack wsX2_requireWithin := goodIn_ca (goodIn_r _ [5, 6, 7] (by decide +kernel) (by decide +kernel)) (goodIn_sub (fun _ h => List.mem_cons_of_mem _ (List.mem_append_right _ h)) (by decide +kernel))
set_option maxRecDepth 20000 in
theorem gX2_setSlack_X2_requireWithin : GoodIn wsX2_setSlack (va_wsS RX2 30 yX2_requireWithin wsX2_requireWithin) := goodIn_app (goodIn_of _ (by decide +kernel)) ggX2_setSlack_X2_requireWithin
theorem dX2_setSlack_0 : decode cX2_setSlack 0 = .ok (.iload_n 1, 1) := by decide +kernel
theorem dX2_setSlack_1 : decode cX2_setSlack 1 = .ok (.iconst 0, 1) := by decide +kernel
theorem dX2_setSlack_2 : decode cX2_setSlack 2 = .ok (.sipush 999, 3) := by decide +kernel
theorem dX2_setSlack_5 : decode cX2_setSlack 5 = .ok (.invokestatic 30, 3) := by decide +kernel
theorem dX2_setSlack_8 : decode cX2_setSlack 8 = .ok (.aload_n 0, 1) := by decide +kernel
theorem dX2_setSlack_9 : decode cX2_setSlack 9 = .ok (.getfield 27, 3) := by decide +kernel
theorem dX2_setSlack_12 : decode cX2_setSlack 12 = .ok (.istore_n 2, 1) := by decide +kernel
theorem dX2_setSlack_13 : decode cX2_setSlack 13 = .ok (.aload_n 0, 1) := by decide +kernel
theorem dX2_setSlack_14 : decode cX2_setSlack 14 = .ok (.iload_n 1, 1) := by decide +kernel
theorem dX2_setSlack_15 : decode cX2_setSlack 15 = .ok (.putfield 27, 3) := by decide +kernel
theorem dX2_setSlack_18 : decode cX2_setSlack 18 = .ok (.iload_n 2, 1) := by decide +kernel
theorem dX2_setSlack_19 : decode cX2_setSlack 19 = .ok (.ireturn, 1) := by decide +kernel
set_option maxRecDepth 20000 in
theorem ggX2_pass_X2_requireWithin : GoodIn wsX2_pass wsX2_requireWithin := goodIn_ca (goodIn_r _ [7, 8, 9] (by decide +kernel) (by decide +kernel)) (goodIn_sub (fun _ h => List.mem_cons_of_mem _ (List.mem_append_right _ h)) (by decide +kernel))
set_option maxRecDepth 20000 in
theorem gX2_pass_X2_requireWithin : GoodIn wsX2_pass (va_wsS RX2 30 yX2_requireWithin wsX2_requireWithin) := goodIn_app (goodIn_of _ (by decide +kernel)) ggX2_pass_X2_requireWithin
set_option maxRecDepth 20000 in
theorem ggX2_pass_Jx4a65c_size_8abf5 : GoodIn wsX2_pass wsJx4a65c_size_8abf5 := goodIn_r _ [14, 15, 49, 50, 51] (by decide +kernel) (by decide +kernel)
set_option maxRecDepth 20000 in
theorem gX2_pass_Jx4a65c_size_8abf5 : GoodIn wsX2_pass (wsV RX2 34 RJx4a65c yJx4a65c_size_8abf5 wsJx4a65c_size_8abf5) := goodIn_app (goodIn_of _ (by decide +kernel)) ggX2_pass_Jx4a65c_size_8abf5
set_option maxRecDepth 20000 in
theorem ggX2_pass_Jx4a65c_get_915e3 : GoodIn wsX2_pass wsJx4a65c_get_915e3 := goodIn_r _ [19, 15, 20, 21, 22, 23, 24, 25, 26, 27, 28, 29, 30, 13, 31, 32, 49, 50, 51] (by decide +kernel) (by decide +kernel)
set_option maxRecDepth 20000 in
theorem gX2_pass_Jx4a65c_get_915e3 : GoodIn wsX2_pass (wsV RX2 65 RJx4a65c yJx4a65c_get_915e3 wsJx4a65c_get_915e3) := goodIn_app (goodIn_of _ (by decide +kernel)) ggX2_pass_Jx4a65c_get_915e3
set_option maxRecDepth 20000 in
theorem ggX2_pass_X0_letPass : GoodIn wsX2_pass wsX0_letPass := goodIn_r _ [36, 37, 38, 39, 40, 41, 42, 43, 44, 52, 53, 54, 55, 56, 57, 58] (by decide +kernel) (by decide +kernel)
set_option maxRecDepth 20000 in
theorem gX2_pass_X0_letPass_n69 : GoodIn wsX2_pass (wsX0_letPass) := ggX2_pass_X0_letPass
theorem dX2_pass_0 : decode cX2_pass 0 = .ok (.iload_n 1, 1) := by decide +kernel
theorem dX2_pass_1 : decode cX2_pass 1 = .ok (.iconst 1, 1) := by decide +kernel
theorem dX2_pass_2 : decode cX2_pass 2 = .ok (.bipush 100, 2) := by decide +kernel
theorem dX2_pass_4 : decode cX2_pass 4 = .ok (.invokestatic 30, 3) := by decide +kernel
theorem dX2_pass_7 : decode cX2_pass 7 = .ok (.aload_n 0, 1) := by decide +kernel
theorem dX2_pass_8 : decode cX2_pass 8 = .ok (.dup, 1) := by decide +kernel
theorem dX2_pass_9 : decode cX2_pass 9 = .ok (.getfield 23, 3) := by decide +kernel
theorem dX2_pass_12 : decode cX2_pass 12 = .ok (.iload_n 1, 1) := by decide +kernel
theorem dX2_pass_13 : decode cX2_pass 13 = .ok (.iadd, 1) := by decide +kernel
theorem dX2_pass_14 : decode cX2_pass 14 = .ok (.putfield 23, 3) := by decide +kernel
theorem dX2_pass_17 : decode cX2_pass 17 = .ok (.iconst 0, 1) := by decide +kernel
theorem dX2_pass_18 : decode cX2_pass 18 = .ok (.istore_n 2, 1) := by decide +kernel
theorem dX2_pass_19 : decode cX2_pass 19 = .ok (.iload_n 2, 1) := by decide +kernel
theorem dX2_pass_20 : decode cX2_pass 20 = .ok (.aload_n 0, 1) := by decide +kernel
theorem dX2_pass_21 : decode cX2_pass 21 = .ok (.getfield 10, 3) := by decide +kernel
theorem dX2_pass_24 : decode cX2_pass 24 = .ok (.invokevirtual 34, 3) := by decide +kernel
theorem dX2_pass_27 : decode cX2_pass 27 = .ok (.if_icmp .ge 24, 3) := by decide +kernel
theorem dX2_pass_30 : decode cX2_pass 30 = .ok (.aload_n 0, 1) := by decide +kernel
theorem dX2_pass_31 : decode cX2_pass 31 = .ok (.getfield 10, 3) := by decide +kernel
theorem dX2_pass_34 : decode cX2_pass 34 = .ok (.iload_n 2, 1) := by decide +kernel
theorem dX2_pass_35 : decode cX2_pass 35 = .ok (.invokevirtual 65, 3) := by decide +kernel
theorem dX2_pass_38 : decode cX2_pass 38 = .ok (.checkcast 45, 3) := by decide +kernel
theorem dX2_pass_41 : decode cX2_pass 41 = .ok (.iload_n 1, 1) := by decide +kernel
theorem dX2_pass_42 : decode cX2_pass 42 = .ok (.invokevirtual 69, 3) := by decide +kernel
theorem dX2_pass_45 : decode cX2_pass 45 = .ok (.iinc 2 1, 3) := by decide +kernel
theorem dX2_pass_48 : decode cX2_pass 48 = .ok (.goto (-29), 3) := by decide +kernel
theorem dX2_pass_51 : decode cX2_pass 51 = .ok (.aload_n 0, 1) := by decide +kernel
theorem dX2_pass_52 : decode cX2_pass 52 = .ok (.getfield 23, 3) := by decide +kernel
theorem dX2_pass_55 : decode cX2_pass 55 = .ok (.ireturn, 1) := by decide +kernel
set_option maxRecDepth 20000 in
theorem ggX2_relieve_X2_requireWithin : GoodIn wsX2_relieve wsX2_requireWithin := goodIn_ca (goodIn_r _ [8, 9, 10] (by decide +kernel) (by decide +kernel)) (goodIn_sub (fun _ h => List.mem_cons_of_mem _ (List.mem_append_right _ h)) (by decide +kernel))
set_option maxRecDepth 20000 in
theorem gX2_relieve_X2_requireWithin : GoodIn wsX2_relieve (va_wsS RX2 30 yX2_requireWithin wsX2_requireWithin) := goodIn_app (goodIn_of _ (by decide +kernel)) ggX2_relieve_X2_requireWithin
set_option maxRecDepth 20000 in
theorem ggX2_relieve_X2_chosenFor : GoodIn wsX2_relieve wsX2_chosenFor := goodIn_r _ [14, 15, 16, 17, 18, 7, 19, 20, 3, 4, 21, 22, 23, 24, 25, 26, 27, 28, 29, 30, 31, 32, 33, 34, 35, 36, 37, 38, 39, 40, 41, 42, 43, 44, 45, 46, 47, 48, 49, 50, 51, 52, 53, 54, 55, 56, 57, 58, 59, 60, 61, 62, 63, 64, 65, 66, 67, 68, 69, 70, 71, 72, 73, 74, 75, 76, 77, 78, 79, 80, 81, 82, 83, 84, 85, 86, 87, 88, 89, 98, 99, 100, 101, 102, 103, 104, 105, 106, 107, 108, 109, 110, 111, 112, 113, 114, 115, 116, 117, 118, 119, 120, 121] (by decide +kernel) (by decide +kernel)
set_option maxRecDepth 20000 in
theorem gX2_relieve_X2_chosenFor : GoodIn wsX2_relieve (wsV RX2 73 RX2 yX2_chosenFor wsX2_chosenFor) := goodIn_app (goodIn_of _ (by decide +kernel)) ggX2_relieve_X2_chosenFor
set_option maxRecDepth 20000 in
theorem ggX2_relieve_Jx4a65c_size_8abf5 : GoodIn wsX2_relieve wsJx4a65c_size_8abf5 := goodIn_r _ [33, 34, 119, 120, 121] (by decide +kernel) (by decide +kernel)
set_option maxRecDepth 20000 in
theorem gX2_relieve_Jx4a65c_size_8abf5 : GoodIn wsX2_relieve (wsV RX2 34 RJx4a65c yJx4a65c_size_8abf5 wsJx4a65c_size_8abf5) := goodIn_app (goodIn_of _ (by decide +kernel)) ggX2_relieve_Jx4a65c_size_8abf5
set_option maxRecDepth 20000 in
theorem ggX2_relieve_X2_holds : GoodIn wsX2_relieve wsX2_holds := goodIn_r _ [92] (by decide +kernel) (by decide +kernel)
set_option maxRecDepth 20000 in
theorem gX2_relieve_X2_holds : GoodIn wsX2_relieve (va_wsS RX2 82 yX2_holds wsX2_holds) := goodIn_app (goodIn_of _ (by decide +kernel)) ggX2_relieve_X2_holds
set_option maxRecDepth 20000 in
theorem ggX2_relieve_Jx4a65c_get_915e3 : GoodIn wsX2_relieve wsJx4a65c_get_915e3 := goodIn_r _ [38, 34, 39, 40, 41, 42, 43, 44, 45, 46, 47, 48, 49, 32, 50, 51, 119, 120, 121] (by decide +kernel) (by decide +kernel)
set_option maxRecDepth 20000 in
theorem gX2_relieve_Jx4a65c_get_915e3 : GoodIn wsX2_relieve (wsV RX2 65 RJx4a65c yJx4a65c_get_915e3 wsJx4a65c_get_915e3) := goodIn_app (goodIn_of _ (by decide +kernel)) ggX2_relieve_Jx4a65c_get_915e3
set_option maxRecDepth 20000 in
theorem ggX2_relieve_X0_switchOff : GoodIn wsX2_relieve wsX0_switchOff := goodIn_r _ [95, 56, 96, 61, 97, 58, 59, 53, 60, 62, 63, 64, 65, 66, 102, 103, 104, 105, 106, 107, 108] (by decide +kernel) (by decide +kernel)
set_option maxRecDepth 20000 in
theorem gX2_relieve_X0_switchOff_n86 : GoodIn wsX2_relieve (wsX0_switchOff) := ggX2_relieve_X0_switchOff
theorem dX2_relieve_0 : decode cX2_relieve 0 = .ok (.iload_n 1, 1) := by decide +kernel
theorem dX2_relieve_1 : decode cX2_relieve 1 = .ok (.iconst 1, 1) := by decide +kernel
theorem dX2_relieve_2 : decode cX2_relieve 2 = .ok (.sipush 20000, 3) := by decide +kernel
theorem dX2_relieve_5 : decode cX2_relieve 5 = .ok (.invokestatic 30, 3) := by decide +kernel
theorem dX2_relieve_8 : decode cX2_relieve 8 = .ok (.aload_n 0, 1) := by decide +kernel
theorem dX2_relieve_9 : decode cX2_relieve 9 = .ok (.iload_n 1, 1) := by decide +kernel
theorem dX2_relieve_10 : decode cX2_relieve 10 = .ok (.invokevirtual 73, 3) := by decide +kernel
theorem dX2_relieve_13 : decode cX2_relieve 13 = .ok (.istore_n 2, 1) := by decide +kernel
theorem dX2_relieve_14 : decode cX2_relieve 14 = .ok (.iload_n 2, 1) := by decide +kernel
theorem dX2_relieve_15 : decode cX2_relieve 15 = .ok (.ifCond .ne 13, 3) := by decide +kernel
theorem dX2_relieve_18 : decode cX2_relieve 18 = .ok (.new 77, 3) := by decide +kernel
theorem dX2_relieve_21 : decode cX2_relieve 21 = .ok (.dup, 1) := by decide +kernel
theorem dX2_relieve_22 : decode cX2_relieve 22 = .ok (.ldc 79, 2) := by decide +kernel
theorem dX2_relieve_24 : decode cX2_relieve 24 = .ok (.invokespecial 81, 3) := by decide +kernel
theorem dX2_relieve_27 : decode cX2_relieve 27 = .ok (.athrow, 1) := by decide +kernel
theorem dX2_relieve_28 : decode cX2_relieve 28 = .ok (.iconst 0, 1) := by decide +kernel
theorem dX2_relieve_29 : decode cX2_relieve 29 = .ok (.istore_n 3, 1) := by decide +kernel
theorem dX2_relieve_30 : decode cX2_relieve 30 = .ok (.iconst 0, 1) := by decide +kernel
theorem dX2_relieve_31 : decode cX2_relieve 31 = .ok (.istore 4, 2) := by decide +kernel
theorem dX2_relieve_33 : decode cX2_relieve 33 = .ok (.iload 4, 2) := by decide +kernel
theorem dX2_relieve_35 : decode cX2_relieve 35 = .ok (.aload_n 0, 1) := by decide +kernel
theorem dX2_relieve_36 : decode cX2_relieve 36 = .ok (.getfield 10, 3) := by decide +kernel
theorem dX2_relieve_39 : decode cX2_relieve 39 = .ok (.invokevirtual 34, 3) := by decide +kernel
theorem dX2_relieve_42 : decode cX2_relieve 42 = .ok (.if_icmp .ge 36, 3) := by decide +kernel
theorem dX2_relieve_45 : decode cX2_relieve 45 = .ok (.iload_n 2, 1) := by decide +kernel
theorem dX2_relieve_46 : decode cX2_relieve 46 = .ok (.iload 4, 2) := by decide +kernel
theorem dX2_relieve_48 : decode cX2_relieve 48 = .ok (.invokestatic 82, 3) := by decide +kernel
theorem dX2_relieve_51 : decode cX2_relieve 51 = .ok (.ifCond .eq 21, 3) := by decide +kernel
theorem dX2_relieve_54 : decode cX2_relieve 54 = .ok (.iload_n 3, 1) := by decide +kernel
theorem dX2_relieve_55 : decode cX2_relieve 55 = .ok (.aload_n 0, 1) := by decide +kernel
theorem dX2_relieve_56 : decode cX2_relieve 56 = .ok (.getfield 10, 3) := by decide +kernel
theorem dX2_relieve_59 : decode cX2_relieve 59 = .ok (.iload 4, 2) := by decide +kernel
theorem dX2_relieve_61 : decode cX2_relieve 61 = .ok (.invokevirtual 65, 3) := by decide +kernel
theorem dX2_relieve_64 : decode cX2_relieve 64 = .ok (.checkcast 45, 3) := by decide +kernel
theorem dX2_relieve_67 : decode cX2_relieve 67 = .ok (.invokevirtual 86, 3) := by decide +kernel
theorem dX2_relieve_70 : decode cX2_relieve 70 = .ok (.iadd, 1) := by decide +kernel
theorem dX2_relieve_71 : decode cX2_relieve 71 = .ok (.istore_n 3, 1) := by decide +kernel
theorem dX2_relieve_72 : decode cX2_relieve 72 = .ok (.iinc 4 1, 3) := by decide +kernel
theorem dX2_relieve_75 : decode cX2_relieve 75 = .ok (.goto (-42), 3) := by decide +kernel
theorem dX2_relieve_78 : decode cX2_relieve 78 = .ok (.iload_n 3, 1) := by decide +kernel
theorem dX2_relieve_79 : decode cX2_relieve 79 = .ok (.ireturn, 1) := by decide +kernel
set_option maxRecDepth 20000 in
theorem ggX2_rotate_X2_takenByReturning : GoodIn wsX2_rotate wsX2_takenByReturning := goodIn_r _ [9, 10, 11, 12, 13, 14, 15, 16, 17, 18, 19, 20, 21, 22, 23, 24, 25, 26, 27, 28, 29, 30, 31, 32, 33, 34, 35, 36, 37, 38, 39, 40, 41, 42, 43, 44, 45, 46, 47, 48, 49, 50, 51, 52, 53, 54, 55, 56, 57, 58, 59, 60, 61, 62, 120, 121, 122, 123, 124, 125, 126, 127, 128, 129, 130, 131, 132, 133] (by decide +kernel) (by decide +kernel)
set_option maxRecDepth 20000 in
theorem gX2_rotate_X2_takenByReturning : GoodIn wsX2_rotate (wsV RX2 89 RX2 yX2_takenByReturning wsX2_takenByReturning) := goodIn_app (goodIn_of _ (by decide +kernel)) ggX2_rotate_X2_takenByReturning
set_option maxRecDepth 20000 in
theorem ggX2_rotate_X2_chosenFor : GoodIn wsX2_rotate wsX2_chosenFor := goodIn_r _ [66, 67, 68, 69, 70, 8, 71, 72, 10, 11, 73, 74, 75, 76, 77, 78, 79, 80, 12, 13, 14, 15, 16, 17, 18, 19, 20, 21, 22, 23, 24, 25, 26, 27, 28, 29, 30, 31, 32, 33, 34, 81, 36, 82, 83, 39, 40, 59, 60, 61, 62, 53, 54, 55, 56, 57, 84, 85, 86, 87, 88, 89, 90, 91, 92, 93, 94, 95, 96, 97, 98, 99, 100, 101, 102, 103, 104, 105, 106, 120, 121, 122, 123, 127, 128, 129, 130, 131, 132, 133, 134, 135, 136, 137, 138, 139, 140, 141, 142, 143, 124, 125, 126] (by decide +kernel) (by decide +kernel)
set_option maxRecDepth 20000 in
theorem gX2_rotate_X2_chosenFor : GoodIn wsX2_rotate (wsV RX2 73 RX2 yX2_chosenFor wsX2_chosenFor) := goodIn_app (goodIn_of _ (by decide +kernel)) ggX2_rotate_X2_chosenFor
set_option maxRecDepth 20000 in
theorem ggX2_rotate_X2_swapFor : GoodIn wsX2_rotate wsX2_swapFor := goodIn_r _ [110, 10, 11, 12, 13, 14, 15, 16, 17, 18, 19, 20, 21, 22, 23, 24, 25, 26, 27, 28, 29, 30, 31, 32, 33, 34, 35, 36, 37, 38, 39, 40, 111, 112, 113, 62, 44, 45, 46, 47, 48, 49, 50, 51, 52, 114, 115, 8, 116, 117, 118, 119, 58, 59, 60, 61, 53, 54, 55, 56, 57, 120, 121, 122, 123, 124, 125, 126, 127, 128, 129, 130, 131, 132, 133] (by decide +kernel) (by decide +kernel)
set_option maxRecDepth 20000 in
theorem gX2_rotate_X2_swapFor : GoodIn wsX2_rotate (wsV RX2 94 RX2 yX2_swapFor wsX2_swapFor) := goodIn_app (goodIn_of _ (by decide +kernel)) ggX2_rotate_X2_swapFor
theorem dX2_rotate_0 : decode cX2_rotate 0 = .ok (.aload_n 0, 1) := by decide +kernel
theorem dX2_rotate_1 : decode cX2_rotate 1 = .ok (.invokevirtual 89, 3) := by decide +kernel
theorem dX2_rotate_4 : decode cX2_rotate 4 = .ok (.istore_n 1, 1) := by decide +kernel
theorem dX2_rotate_5 : decode cX2_rotate 5 = .ok (.iload_n 1, 1) := by decide +kernel
theorem dX2_rotate_6 : decode cX2_rotate 6 = .ok (.ifCond .ne 13, 3) := by decide +kernel
theorem dX2_rotate_9 : decode cX2_rotate 9 = .ok (.new 38, 3) := by decide +kernel
theorem dX2_rotate_12 : decode cX2_rotate 12 = .ok (.dup, 1) := by decide +kernel
theorem dX2_rotate_13 : decode cX2_rotate 13 = .ok (.ldc 92, 2) := by decide +kernel
theorem dX2_rotate_15 : decode cX2_rotate 15 = .ok (.invokespecial 42, 3) := by decide +kernel
theorem dX2_rotate_18 : decode cX2_rotate 18 = .ok (.athrow, 1) := by decide +kernel
theorem dX2_rotate_19 : decode cX2_rotate 19 = .ok (.aload_n 0, 1) := by decide +kernel
theorem dX2_rotate_20 : decode cX2_rotate 20 = .ok (.iload_n 1, 1) := by decide +kernel
theorem dX2_rotate_21 : decode cX2_rotate 21 = .ok (.invokevirtual 73, 3) := by decide +kernel
theorem dX2_rotate_24 : decode cX2_rotate 24 = .ok (.istore_n 2, 1) := by decide +kernel
theorem dX2_rotate_25 : decode cX2_rotate 25 = .ok (.iload_n 2, 1) := by decide +kernel
theorem dX2_rotate_26 : decode cX2_rotate 26 = .ok (.ifCond .ne 13, 3) := by decide +kernel
theorem dX2_rotate_29 : decode cX2_rotate 29 = .ok (.new 77, 3) := by decide +kernel
theorem dX2_rotate_32 : decode cX2_rotate 32 = .ok (.dup, 1) := by decide +kernel
theorem dX2_rotate_33 : decode cX2_rotate 33 = .ok (.ldc 79, 2) := by decide +kernel
theorem dX2_rotate_35 : decode cX2_rotate 35 = .ok (.invokespecial 81, 3) := by decide +kernel
theorem dX2_rotate_38 : decode cX2_rotate 38 = .ok (.athrow, 1) := by decide +kernel
theorem dX2_rotate_39 : decode cX2_rotate 39 = .ok (.aload_n 0, 1) := by decide +kernel
theorem dX2_rotate_40 : decode cX2_rotate 40 = .ok (.iload_n 2, 1) := by decide +kernel
theorem dX2_rotate_41 : decode cX2_rotate 41 = .ok (.invokevirtual 94, 3) := by decide +kernel
theorem dX2_rotate_44 : decode cX2_rotate 44 = .ok (.ireturn, 1) := by decide +kernel
set_option maxRecDepth 20000 in
theorem ggX2_restore_X2_feederOf : GoodIn wsX2_restore wsX2_feederOf := goodIn_ca (goodIn_r _ [7, 8, 9, 10, 11, 12, 13, 14, 15, 16, 17, 18, 19, 20, 21, 22, 23, 24, 25, 26, 27, 28, 29, 30, 31, 32, 33, 34, 65, 66, 67, 68, 69, 70, 71] (by decide +kernel) (by decide +kernel)) (goodIn_sub (fun _ h => List.mem_cons_of_mem _ (List.mem_append_right _ h)) (by decide +kernel))
set_option maxRecDepth 20000 in
theorem gX2_restore_X2_feederOf : GoodIn wsX2_restore (wsV RX2 54 RX2 yX2_feederOf wsX2_feederOf) := goodIn_app (goodIn_of _ (by decide +kernel)) ggX2_restore_X2_feederOf
set_option maxRecDepth 20000 in
theorem ggX2_restore_X0_switchOn : GoodIn wsX2_restore wsX0_switchOn := goodIn_r _ [38, 39, 40, 41, 42, 43, 36, 44, 45, 46, 47, 48, 49, 58, 59, 60, 61, 62, 63, 64] (by decide +kernel) (by decide +kernel)
set_option maxRecDepth 20000 in
theorem gX2_restore_X0_switchOn_n109 : GoodIn wsX2_restore (wsX0_switchOn) := ggX2_restore_X0_switchOn
set_option maxRecDepth 20000 in
theorem ggX2_restore_X0_taken : GoodIn wsX2_restore wsX0_taken := goodIn_r _ [52, 40, 39, 53, 54, 55, 36, 56, 57, 58, 59, 60, 61, 62, 63, 64] (by decide +kernel) (by decide +kernel)
set_option maxRecDepth 20000 in
theorem gX2_restore_X0_taken_n112 : GoodIn wsX2_restore (wsX0_taken) := ggX2_restore_X0_taken
theorem dX2_restore_0 : decode cX2_restore 0 = .ok (.aload_n 0, 1) := by decide +kernel
theorem dX2_restore_1 : decode cX2_restore 1 = .ok (.iload_n 1, 1) := by decide +kernel
theorem dX2_restore_2 : decode cX2_restore 2 = .ok (.invokevirtual 54, 3) := by decide +kernel
theorem dX2_restore_5 : decode cX2_restore 5 = .ok (.astore_n 2, 1) := by decide +kernel
theorem dX2_restore_6 : decode cX2_restore 6 = .ok (.aload_n 2, 1) := by decide +kernel
theorem dX2_restore_7 : decode cX2_restore 7 = .ok (.getfield 104, 3) := by decide +kernel
theorem dX2_restore_10 : decode cX2_restore 10 = .ok (.ifCond .ne 13, 3) := by decide +kernel
theorem dX2_restore_13 : decode cX2_restore 13 = .ok (.new 38, 3) := by decide +kernel
theorem dX2_restore_16 : decode cX2_restore 16 = .ok (.dup, 1) := by decide +kernel
theorem dX2_restore_17 : decode cX2_restore 17 = .ok (.ldc 107, 2) := by decide +kernel
theorem dX2_restore_19 : decode cX2_restore 19 = .ok (.invokespecial 42, 3) := by decide +kernel
theorem dX2_restore_22 : decode cX2_restore 22 = .ok (.athrow, 1) := by decide +kernel
theorem dX2_restore_23 : decode cX2_restore 23 = .ok (.aload_n 2, 1) := by decide +kernel
theorem dX2_restore_24 : decode cX2_restore 24 = .ok (.invokevirtual 109, 3) := by decide +kernel
theorem dX2_restore_27 : decode cX2_restore 27 = .ok (.aload_n 2, 1) := by decide +kernel
theorem dX2_restore_28 : decode cX2_restore 28 = .ok (.invokevirtual 112, 3) := by decide +kernel
theorem dX2_restore_31 : decode cX2_restore 31 = .ok (.ireturn, 1) := by decide +kernel
theorem dX2_hour_0 : decode cX2_hour 0 = .ok (.aload_n 0, 1) := by decide +kernel
theorem dX2_hour_1 : decode cX2_hour 1 = .ok (.getfield 23, 3) := by decide +kernel
theorem dX2_hour_4 : decode cX2_hour 4 = .ok (.ireturn, 1) := by decide +kernel
set_option maxRecDepth 20000 in
theorem ggX2_feeders_Jx4a65c_size_8abf5 : GoodIn wsX2_feeders wsJx4a65c_size_8abf5 := goodIn_r _ [6, 7, 12, 13, 14] (by decide +kernel) (by decide +kernel)
set_option maxRecDepth 20000 in
theorem gX2_feeders_Jx4a65c_size_8abf5 : GoodIn wsX2_feeders (wsV RX2 34 RJx4a65c yJx4a65c_size_8abf5 wsJx4a65c_size_8abf5) := goodIn_app (goodIn_of _ (by decide +kernel)) ggX2_feeders_Jx4a65c_size_8abf5
theorem dX2_feeders_0 : decode cX2_feeders 0 = .ok (.aload_n 0, 1) := by decide +kernel
theorem dX2_feeders_1 : decode cX2_feeders 1 = .ok (.getfield 10, 3) := by decide +kernel
theorem dX2_feeders_4 : decode cX2_feeders 4 = .ok (.invokevirtual 34, 3) := by decide +kernel
theorem dX2_feeders_7 : decode cX2_feeders 7 = .ok (.ireturn, 1) := by decide +kernel
set_option maxRecDepth 20000 in
theorem ggX2_isCut_X2_feederOf : GoodIn wsX2_isCut wsX2_feederOf := goodIn_ca (goodIn_r _ [5, 6, 7, 8, 9, 10, 11, 12, 13, 14, 15, 16, 17, 18, 19, 20, 21, 22, 23, 24, 25, 26, 27, 28, 29, 30, 31, 32, 40, 41, 42, 43, 44, 45, 46] (by decide +kernel) (by decide +kernel)) (goodIn_sub (fun _ h => List.mem_cons_of_mem _ (List.mem_append_right _ h)) (by decide +kernel))
set_option maxRecDepth 20000 in
theorem gX2_isCut_X2_feederOf : GoodIn wsX2_isCut (wsV RX2 54 RX2 yX2_feederOf wsX2_feederOf) := goodIn_app (goodIn_of _ (by decide +kernel)) ggX2_isCut_X2_feederOf
theorem dX2_isCut_0 : decode cX2_isCut 0 = .ok (.aload_n 0, 1) := by decide +kernel
theorem dX2_isCut_1 : decode cX2_isCut 1 = .ok (.iload_n 1, 1) := by decide +kernel
theorem dX2_isCut_2 : decode cX2_isCut 2 = .ok (.invokevirtual 54, 3) := by decide +kernel
theorem dX2_isCut_5 : decode cX2_isCut 5 = .ok (.getfield 104, 3) := by decide +kernel
theorem dX2_isCut_8 : decode cX2_isCut 8 = .ok (.ireturn, 1) := by decide +kernel
set_option maxRecDepth 20000 in
theorem ggX2_takes_X2_feederOf : GoodIn wsX2_takes wsX2_feederOf := goodIn_ca (goodIn_r _ [5, 6, 7, 8, 9, 10, 11, 12, 13, 14, 15, 16, 17, 18, 19, 20, 21, 22, 23, 24, 25, 26, 27, 28, 29, 30, 31, 32, 44, 45, 46, 47, 48, 49, 50] (by decide +kernel) (by decide +kernel)) (goodIn_sub (fun _ h => List.mem_cons_of_mem _ (List.mem_append_right _ h)) (by decide +kernel))
set_option maxRecDepth 20000 in
theorem gX2_takes_X2_feederOf : GoodIn wsX2_takes (wsV RX2 54 RX2 yX2_feederOf wsX2_feederOf) := goodIn_app (goodIn_of _ (by decide +kernel)) ggX2_takes_X2_feederOf
set_option maxRecDepth 20000 in
theorem ggX2_takes_X0_taken : GoodIn wsX2_takes wsX0_taken := goodIn_r _ [36, 37, 38, 39, 40, 41, 34, 42, 43, 51, 52, 53, 54, 55, 56, 57] (by decide +kernel) (by decide +kernel)
set_option maxRecDepth 20000 in
theorem gX2_takes_X0_taken_n112 : GoodIn wsX2_takes (wsX0_taken) := ggX2_takes_X0_taken
theorem dX2_takes_0 : decode cX2_takes 0 = .ok (.aload_n 0, 1) := by decide +kernel
theorem dX2_takes_1 : decode cX2_takes 1 = .ok (.iload_n 1, 1) := by decide +kernel
theorem dX2_takes_2 : decode cX2_takes 2 = .ok (.invokevirtual 54, 3) := by decide +kernel
theorem dX2_takes_5 : decode cX2_takes 5 = .ok (.invokevirtual 112, 3) := by decide +kernel
theorem dX2_takes_8 : decode cX2_takes 8 = .ok (.ireturn, 1) := by decide +kernel
set_option maxRecDepth 20000 in
theorem ggX2_cold_X2_feederOf : GoodIn wsX2_cold wsX2_feederOf := goodIn_ca (goodIn_r _ [5, 6, 7, 8, 9, 10, 11, 12, 13, 14, 15, 16, 17, 18, 19, 20, 21, 22, 23, 24, 25, 26, 27, 28, 29, 30, 31, 32, 40, 41, 42, 43, 44, 45, 46] (by decide +kernel) (by decide +kernel)) (goodIn_sub (fun _ h => List.mem_cons_of_mem _ (List.mem_append_right _ h)) (by decide +kernel))
set_option maxRecDepth 20000 in
theorem gX2_cold_X2_feederOf : GoodIn wsX2_cold (wsV RX2 54 RX2 yX2_feederOf wsX2_feederOf) := goodIn_app (goodIn_of _ (by decide +kernel)) ggX2_cold_X2_feederOf
theorem dX2_cold_0 : decode cX2_cold 0 = .ok (.aload_n 0, 1) := by decide +kernel
theorem dX2_cold_1 : decode cX2_cold 1 = .ok (.iload_n 1, 1) := by decide +kernel
theorem dX2_cold_2 : decode cX2_cold 2 = .ok (.invokevirtual 54, 3) := by decide +kernel
theorem dX2_cold_5 : decode cX2_cold 5 = .ok (.getfield 117, 3) := by decide +kernel
theorem dX2_cold_8 : decode cX2_cold 8 = .ok (.ireturn, 1) := by decide +kernel
set_option maxRecDepth 20000 in
theorem ggX2_hours_X2_feederOf : GoodIn wsX2_hours wsX2_feederOf := goodIn_ca (goodIn_r _ [5, 6, 7, 8, 9, 10, 11, 12, 13, 14, 15, 16, 17, 18, 19, 20, 21, 22, 23, 24, 25, 26, 27, 28, 29, 30, 31, 32, 40, 41, 42, 43, 44, 45, 46] (by decide +kernel) (by decide +kernel)) (goodIn_sub (fun _ h => List.mem_cons_of_mem _ (List.mem_append_right _ h)) (by decide +kernel))
set_option maxRecDepth 20000 in
theorem gX2_hours_X2_feederOf : GoodIn wsX2_hours (wsV RX2 54 RX2 yX2_feederOf wsX2_feederOf) := goodIn_app (goodIn_of _ (by decide +kernel)) ggX2_hours_X2_feederOf
theorem dX2_hours_0 : decode cX2_hours 0 = .ok (.aload_n 0, 1) := by decide +kernel
theorem dX2_hours_1 : decode cX2_hours 1 = .ok (.iload_n 1, 1) := by decide +kernel
theorem dX2_hours_2 : decode cX2_hours 2 = .ok (.invokevirtual 54, 3) := by decide +kernel
theorem dX2_hours_5 : decode cX2_hours 5 = .ok (.getfield 120, 3) := by decide +kernel
theorem dX2_hours_8 : decode cX2_hours 8 = .ok (.ireturn, 1) := by decide +kernel
set_option maxRecDepth 20000 in
theorem ggX2_load_Jx4a65c_size_8abf5 : GoodIn wsX2_load wsJx4a65c_size_8abf5 := goodIn_r _ [7, 8, 41, 42, 43] (by decide +kernel) (by decide +kernel)
set_option maxRecDepth 20000 in
theorem gX2_load_Jx4a65c_size_8abf5 : GoodIn wsX2_load (wsV RX2 34 RJx4a65c yJx4a65c_size_8abf5 wsJx4a65c_size_8abf5) := goodIn_app (goodIn_of _ (by decide +kernel)) ggX2_load_Jx4a65c_size_8abf5
set_option maxRecDepth 20000 in
theorem ggX2_load_Jx4a65c_get_915e3 : GoodIn wsX2_load wsJx4a65c_get_915e3 := goodIn_r _ [12, 8, 13, 14, 15, 16, 17, 18, 19, 20, 21, 22, 23, 6, 24, 25, 41, 42, 43] (by decide +kernel) (by decide +kernel)
set_option maxRecDepth 20000 in
theorem gX2_load_Jx4a65c_get_915e3 : GoodIn wsX2_load (wsV RX2 65 RJx4a65c yJx4a65c_get_915e3 wsJx4a65c_get_915e3) := goodIn_app (goodIn_of _ (by decide +kernel)) ggX2_load_Jx4a65c_get_915e3
set_option maxRecDepth 20000 in
theorem ggX2_load_X0_taken : GoodIn wsX2_load wsX0_taken := goodIn_r _ [29, 30, 31, 32, 33, 34, 27, 35, 36, 44, 45, 46, 47, 48, 49, 50] (by decide +kernel) (by decide +kernel)
set_option maxRecDepth 20000 in
theorem gX2_load_X0_taken_n112 : GoodIn wsX2_load (wsX0_taken) := ggX2_load_X0_taken
theorem dX2_load_0 : decode cX2_load 0 = .ok (.iconst 0, 1) := by decide +kernel
theorem dX2_load_1 : decode cX2_load 1 = .ok (.istore_n 1, 1) := by decide +kernel
theorem dX2_load_2 : decode cX2_load 2 = .ok (.iconst 0, 1) := by decide +kernel
theorem dX2_load_3 : decode cX2_load 3 = .ok (.istore_n 2, 1) := by decide +kernel
theorem dX2_load_4 : decode cX2_load 4 = .ok (.iload_n 2, 1) := by decide +kernel
theorem dX2_load_5 : decode cX2_load 5 = .ok (.aload_n 0, 1) := by decide +kernel
theorem dX2_load_6 : decode cX2_load 6 = .ok (.getfield 10, 3) := by decide +kernel
theorem dX2_load_9 : decode cX2_load 9 = .ok (.invokevirtual 34, 3) := by decide +kernel
theorem dX2_load_12 : decode cX2_load 12 = .ok (.if_icmp .ge 26, 3) := by decide +kernel
theorem dX2_load_15 : decode cX2_load 15 = .ok (.iload_n 1, 1) := by decide +kernel
theorem dX2_load_16 : decode cX2_load 16 = .ok (.aload_n 0, 1) := by decide +kernel
theorem dX2_load_17 : decode cX2_load 17 = .ok (.getfield 10, 3) := by decide +kernel
theorem dX2_load_20 : decode cX2_load 20 = .ok (.iload_n 2, 1) := by decide +kernel
theorem dX2_load_21 : decode cX2_load 21 = .ok (.invokevirtual 65, 3) := by decide +kernel
theorem dX2_load_24 : decode cX2_load 24 = .ok (.checkcast 45, 3) := by decide +kernel
theorem dX2_load_27 : decode cX2_load 27 = .ok (.invokevirtual 112, 3) := by decide +kernel
theorem dX2_load_30 : decode cX2_load 30 = .ok (.iadd, 1) := by decide +kernel
theorem dX2_load_31 : decode cX2_load 31 = .ok (.istore_n 1, 1) := by decide +kernel
theorem dX2_load_32 : decode cX2_load 32 = .ok (.iinc 2 1, 3) := by decide +kernel
theorem dX2_load_35 : decode cX2_load 35 = .ok (.goto (-31), 3) := by decide +kernel
theorem dX2_load_38 : decode cX2_load 38 = .ok (.iload_n 1, 1) := by decide +kernel
theorem dX2_load_39 : decode cX2_load 39 = .ok (.ireturn, 1) := by decide +kernel
set_option maxRecDepth 20000 in
theorem ggX2_choice_X2_requireWithin : GoodIn wsX2_choice wsX2_requireWithin := goodIn_ca (goodIn_r _ [4, 5, 6] (by decide +kernel) (by decide +kernel)) (goodIn_sub (fun _ h => List.mem_cons_of_mem _ (List.mem_append_right _ h)) (by decide +kernel))
set_option maxRecDepth 20000 in
theorem gX2_choice_X2_requireWithin : GoodIn wsX2_choice (va_wsS RX2 30 yX2_requireWithin wsX2_requireWithin) := goodIn_app (goodIn_of _ (by decide +kernel)) ggX2_choice_X2_requireWithin
set_option maxRecDepth 20000 in
theorem ggX2_choice_X2_chosenFor : GoodIn wsX2_choice wsX2_chosenFor := goodIn_r _ [10, 11, 12, 13, 14, 3, 15, 16, 17, 18, 19, 20, 21, 22, 23, 24, 25, 26, 27, 28, 29, 30, 31, 32, 33, 34, 35, 36, 37, 38, 39, 40, 41, 42, 43, 44, 45, 46, 47, 48, 49, 50, 51, 52, 53, 54, 55, 56, 57, 58, 59, 60, 61, 62, 63, 64, 65, 66, 67, 68, 69, 70, 71, 72, 73, 74, 75, 76, 77, 78, 79, 80, 81, 82, 83, 84, 85, 86, 87, 88, 89, 90, 91, 92, 93, 94, 95, 96, 97, 98, 99, 100, 101, 102, 103, 104, 105, 106, 107, 108, 109, 110, 111] (by decide +kernel) (by decide +kernel)
set_option maxRecDepth 20000 in
theorem gX2_choice_X2_chosenFor : GoodIn wsX2_choice (wsV RX2 73 RX2 yX2_chosenFor wsX2_chosenFor) := goodIn_app (goodIn_of _ (by decide +kernel)) ggX2_choice_X2_chosenFor
theorem dX2_choice_0 : decode cX2_choice 0 = .ok (.iload_n 1, 1) := by decide +kernel
theorem dX2_choice_1 : decode cX2_choice 1 = .ok (.iconst 1, 1) := by decide +kernel
theorem dX2_choice_2 : decode cX2_choice 2 = .ok (.sipush 20000, 3) := by decide +kernel
theorem dX2_choice_5 : decode cX2_choice 5 = .ok (.invokestatic 30, 3) := by decide +kernel
theorem dX2_choice_8 : decode cX2_choice 8 = .ok (.aload_n 0, 1) := by decide +kernel
theorem dX2_choice_9 : decode cX2_choice 9 = .ok (.iload_n 1, 1) := by decide +kernel
theorem dX2_choice_10 : decode cX2_choice 10 = .ok (.invokevirtual 73, 3) := by decide +kernel
theorem dX2_choice_13 : decode cX2_choice 13 = .ok (.ireturn, 1) := by decide +kernel
set_option maxRecDepth 20000 in
theorem ggX2_loadRestored_Jx4a65c_size_8abf5 : GoodIn wsX2_loadRestored wsJx4a65c_size_8abf5 := goodIn_r _ [7, 8, 54, 55, 56] (by decide +kernel) (by decide +kernel)
set_option maxRecDepth 20000 in
theorem gX2_loadRestored_Jx4a65c_size_8abf5 : GoodIn wsX2_loadRestored (wsV RX2 34 RJx4a65c yJx4a65c_size_8abf5 wsJx4a65c_size_8abf5) := goodIn_app (goodIn_of _ (by decide +kernel)) ggX2_loadRestored_Jx4a65c_size_8abf5
set_option maxRecDepth 20000 in
theorem ggX2_loadRestored_Jx4a65c_get_915e3 : GoodIn wsX2_loadRestored wsJx4a65c_get_915e3 := goodIn_r _ [12, 8, 13, 14, 15, 16, 17, 18, 19, 20, 21, 22, 23, 6, 24, 25, 54, 55, 56] (by decide +kernel) (by decide +kernel)
set_option maxRecDepth 20000 in
theorem gX2_loadRestored_Jx4a65c_get_915e3 : GoodIn wsX2_loadRestored (wsV RX2 65 RJx4a65c yJx4a65c_get_915e3 wsJx4a65c_get_915e3) := goodIn_app (goodIn_of _ (by decide +kernel)) ggX2_loadRestored_Jx4a65c_get_915e3
set_option maxRecDepth 20000 in
theorem ggX2_loadRestored_X0_takenIfRestored : GoodIn wsX2_loadRestored wsX0_takenIfRestored := goodIn_r _ [29, 30, 31, 32, 33, 27, 34, 35, 36, 37, 38, 39, 40, 41, 42, 43, 44, 45, 46, 47, 48, 49, 57, 58, 59, 60, 61, 62, 63] (by decide +kernel) (by decide +kernel)
set_option maxRecDepth 20000 in
theorem gX2_loadRestored_X0_takenIfRestored_n143 : GoodIn wsX2_loadRestored (wsX0_takenIfRestored) := ggX2_loadRestored_X0_takenIfRestored
theorem dX2_loadRestored_0 : decode cX2_loadRestored 0 = .ok (.iconst 0, 1) := by decide +kernel
theorem dX2_loadRestored_1 : decode cX2_loadRestored 1 = .ok (.istore_n 1, 1) := by decide +kernel
theorem dX2_loadRestored_2 : decode cX2_loadRestored 2 = .ok (.iconst 0, 1) := by decide +kernel
theorem dX2_loadRestored_3 : decode cX2_loadRestored 3 = .ok (.istore_n 2, 1) := by decide +kernel
theorem dX2_loadRestored_4 : decode cX2_loadRestored 4 = .ok (.iload_n 2, 1) := by decide +kernel
theorem dX2_loadRestored_5 : decode cX2_loadRestored 5 = .ok (.aload_n 0, 1) := by decide +kernel
theorem dX2_loadRestored_6 : decode cX2_loadRestored 6 = .ok (.getfield 10, 3) := by decide +kernel
theorem dX2_loadRestored_9 : decode cX2_loadRestored 9 = .ok (.invokevirtual 34, 3) := by decide +kernel
theorem dX2_loadRestored_12 : decode cX2_loadRestored 12 = .ok (.if_icmp .ge 26, 3) := by decide +kernel
theorem dX2_loadRestored_15 : decode cX2_loadRestored 15 = .ok (.iload_n 1, 1) := by decide +kernel
theorem dX2_loadRestored_16 : decode cX2_loadRestored 16 = .ok (.aload_n 0, 1) := by decide +kernel
theorem dX2_loadRestored_17 : decode cX2_loadRestored 17 = .ok (.getfield 10, 3) := by decide +kernel
theorem dX2_loadRestored_20 : decode cX2_loadRestored 20 = .ok (.iload_n 2, 1) := by decide +kernel
theorem dX2_loadRestored_21 : decode cX2_loadRestored 21 = .ok (.invokevirtual 65, 3) := by decide +kernel
theorem dX2_loadRestored_24 : decode cX2_loadRestored 24 = .ok (.checkcast 45, 3) := by decide +kernel
theorem dX2_loadRestored_27 : decode cX2_loadRestored 27 = .ok (.invokevirtual 143, 3) := by decide +kernel
theorem dX2_loadRestored_30 : decode cX2_loadRestored 30 = .ok (.iadd, 1) := by decide +kernel
theorem dX2_loadRestored_31 : decode cX2_loadRestored 31 = .ok (.istore_n 1, 1) := by decide +kernel
theorem dX2_loadRestored_32 : decode cX2_loadRestored 32 = .ok (.iinc 2 1, 3) := by decide +kernel
theorem dX2_loadRestored_35 : decode cX2_loadRestored 35 = .ok (.goto (-31), 3) := by decide +kernel
theorem dX2_loadRestored_38 : decode cX2_loadRestored 38 = .ok (.iload_n 1, 1) := by decide +kernel
theorem dX2_loadRestored_39 : decode cX2_loadRestored 39 = .ok (.ireturn, 1) := by decide +kernel
theorem dX2_requireWithin_0 : decode cX2_requireWithin 0 = .ok (.iload_n 0, 1) := by decide +kernel
theorem dX2_requireWithin_1 : decode cX2_requireWithin 1 = .ok (.iload_n 1, 1) := by decide +kernel
theorem dX2_requireWithin_2 : decode cX2_requireWithin 2 = .ok (.if_icmp .lt 8, 3) := by decide +kernel
theorem dX2_requireWithin_5 : decode cX2_requireWithin 5 = .ok (.iload_n 0, 1) := by decide +kernel
theorem dX2_requireWithin_6 : decode cX2_requireWithin 6 = .ok (.iload_n 2, 1) := by decide +kernel
theorem dX2_requireWithin_7 : decode cX2_requireWithin 7 = .ok (.if_icmp .le 13, 3) := by decide +kernel
theorem dX2_requireWithin_10 : decode cX2_requireWithin 10 = .ok (.new 146, 3) := by decide +kernel
theorem dX2_requireWithin_13 : decode cX2_requireWithin 13 = .ok (.dup, 1) := by decide +kernel
theorem dX2_requireWithin_14 : decode cX2_requireWithin 14 = .ok (.ldc 148, 2) := by decide +kernel
theorem dX2_requireWithin_16 : decode cX2_requireWithin 16 = .ok (.invokespecial 150, 3) := by decide +kernel
theorem dX2_requireWithin_19 : decode cX2_requireWithin 19 = .ok (.athrow, 1) := by decide +kernel
theorem dX2_requireWithin_20 : decode cX2_requireWithin 20 = .ok (.return_, 1) := by decide +kernel
set_option maxRecDepth 20000 in
theorem ggX2_feederOf_Jx4a65c_size_8abf5 : GoodIn wsX2_feederOf wsJx4a65c_size_8abf5 := goodIn_r _ [9, 10, 32, 33, 34] (by decide +kernel) (by decide +kernel)
set_option maxRecDepth 20000 in
theorem gX2_feederOf_Jx4a65c_size_8abf5 : GoodIn wsX2_feederOf (wsV RX2 34 RJx4a65c yJx4a65c_size_8abf5 wsJx4a65c_size_8abf5) := goodIn_app (goodIn_of _ (by decide +kernel)) ggX2_feederOf_Jx4a65c_size_8abf5
set_option maxRecDepth 20000 in
theorem ggX2_feederOf_Jx4a65c_get_915e3 : GoodIn wsX2_feederOf wsJx4a65c_get_915e3 := goodIn_r _ [14, 10, 15, 16, 17, 18, 19, 20, 21, 22, 23, 24, 25, 8, 26, 27, 32, 33, 34] (by decide +kernel) (by decide +kernel)
set_option maxRecDepth 20000 in
theorem gX2_feederOf_Jx4a65c_get_915e3 : GoodIn wsX2_feederOf (wsV RX2 65 RJx4a65c yJx4a65c_get_915e3 wsJx4a65c_get_915e3) := goodIn_app (goodIn_of _ (by decide +kernel)) ggX2_feederOf_Jx4a65c_get_915e3
theorem dX2_feederOf_0 : decode cX2_feederOf 0 = .ok (.iload_n 1, 1) := by decide +kernel
theorem dX2_feederOf_1 : decode cX2_feederOf 1 = .ok (.ifCond .lt 14, 3) := by decide +kernel
theorem dX2_feederOf_4 : decode cX2_feederOf 4 = .ok (.iload_n 1, 1) := by decide +kernel
theorem dX2_feederOf_5 : decode cX2_feederOf 5 = .ok (.aload_n 0, 1) := by decide +kernel
theorem dX2_feederOf_6 : decode cX2_feederOf 6 = .ok (.getfield 10, 3) := by decide +kernel
theorem dX2_feederOf_9 : decode cX2_feederOf 9 = .ok (.invokevirtual 34, 3) := by decide +kernel
theorem dX2_feederOf_12 : decode cX2_feederOf 12 = .ok (.if_icmp .lt 13, 3) := by decide +kernel
theorem dX2_feederOf_15 : decode cX2_feederOf 15 = .ok (.new 151, 3) := by decide +kernel
theorem dX2_feederOf_18 : decode cX2_feederOf 18 = .ok (.dup, 1) := by decide +kernel
theorem dX2_feederOf_19 : decode cX2_feederOf 19 = .ok (.ldc 153, 2) := by decide +kernel
theorem dX2_feederOf_21 : decode cX2_feederOf 21 = .ok (.invokespecial 155, 3) := by decide +kernel
theorem dX2_feederOf_24 : decode cX2_feederOf 24 = .ok (.athrow, 1) := by decide +kernel
theorem dX2_feederOf_25 : decode cX2_feederOf 25 = .ok (.aload_n 0, 1) := by decide +kernel
theorem dX2_feederOf_26 : decode cX2_feederOf 26 = .ok (.getfield 10, 3) := by decide +kernel
theorem dX2_feederOf_29 : decode cX2_feederOf 29 = .ok (.iload_n 1, 1) := by decide +kernel
theorem dX2_feederOf_30 : decode cX2_feederOf 30 = .ok (.invokevirtual 65, 3) := by decide +kernel
theorem dX2_feederOf_33 : decode cX2_feederOf 33 = .ok (.checkcast 45, 3) := by decide +kernel
theorem dX2_feederOf_36 : decode cX2_feederOf 36 = .ok (.areturn, 1) := by decide +kernel
theorem dX2_holds_0 : decode cX2_holds 0 = .ok (.iload_n 0, 1) := by decide +kernel
theorem dX2_holds_1 : decode cX2_holds 1 = .ok (.iload_n 1, 1) := by decide +kernel
theorem dX2_holds_2 : decode cX2_holds 2 = .ok (.ishr, 1) := by decide +kernel
theorem dX2_holds_3 : decode cX2_holds 3 = .ok (.iconst 1, 1) := by decide +kernel
theorem dX2_holds_4 : decode cX2_holds 4 = .ok (.iand, 1) := by decide +kernel
theorem dX2_holds_5 : decode cX2_holds 5 = .ok (.ifCond .eq 7, 3) := by decide +kernel
theorem dX2_holds_8 : decode cX2_holds 8 = .ok (.iconst 1, 1) := by decide +kernel
theorem dX2_holds_9 : decode cX2_holds 9 = .ok (.goto 4, 3) := by decide +kernel
theorem dX2_holds_12 : decode cX2_holds 12 = .ok (.iconst 0, 1) := by decide +kernel
theorem dX2_holds_13 : decode cX2_holds 13 = .ok (.ireturn, 1) := by decide +kernel
set_option maxRecDepth 20000 in
theorem ggX2_takenByReturning_Jx4a65c_size_8abf5 : GoodIn wsX2_takenByReturning wsJx4a65c_size_8abf5 := goodIn_r _ [7, 8, 58, 59, 60] (by decide +kernel) (by decide +kernel)
set_option maxRecDepth 20000 in
theorem gX2_takenByReturning_Jx4a65c_size_8abf5 : GoodIn wsX2_takenByReturning (wsV RX2 34 RJx4a65c yJx4a65c_size_8abf5 wsJx4a65c_size_8abf5) := goodIn_app (goodIn_of _ (by decide +kernel)) ggX2_takenByReturning_Jx4a65c_size_8abf5
set_option maxRecDepth 20000 in
theorem ggX2_takenByReturning_Jx4a65c_get_915e3 : GoodIn wsX2_takenByReturning wsJx4a65c_get_915e3 := goodIn_r _ [12, 8, 13, 14, 15, 16, 17, 18, 19, 20, 21, 22, 23, 6, 24, 25, 58, 59, 60] (by decide +kernel) (by decide +kernel)
set_option maxRecDepth 20000 in
theorem gX2_takenByReturning_Jx4a65c_get_915e3 : GoodIn wsX2_takenByReturning (wsV RX2 65 RJx4a65c yJx4a65c_get_915e3 wsJx4a65c_get_915e3) := goodIn_app (goodIn_of _ (by decide +kernel)) ggX2_takenByReturning_Jx4a65c_get_915e3
set_option maxRecDepth 20000 in
theorem ggX2_takenByReturning_X0_mayReturn : GoodIn wsX2_takenByReturning wsX0_mayReturn := goodIn_r _ [29, 30, 31, 61, 62, 63, 64, 65, 66, 67] (by decide +kernel) (by decide +kernel)
set_option maxRecDepth 20000 in
theorem gX2_takenByReturning_X0_mayReturn_n156 : GoodIn wsX2_takenByReturning (wsX0_mayReturn) := ggX2_takenByReturning_X0_mayReturn
set_option maxRecDepth 20000 in
theorem ggX2_takenByReturning_X0_takenIfRestored : GoodIn wsX2_takenByReturning wsX0_takenIfRestored := goodIn_r _ [34, 30, 35, 36, 37, 27, 38, 39, 40, 41, 42, 43, 44, 45, 46, 47, 48, 49, 50, 51, 52, 53, 61, 62, 63, 64, 65, 66, 67] (by decide +kernel) (by decide +kernel)
set_option maxRecDepth 20000 in
theorem gX2_takenByReturning_X0_takenIfRestored_n143 : GoodIn wsX2_takenByReturning (wsX0_takenIfRestored) := ggX2_takenByReturning_X0_takenIfRestored
theorem dX2_takenByReturning_0 : decode cX2_takenByReturning 0 = .ok (.iconst 0, 1) := by decide +kernel
theorem dX2_takenByReturning_1 : decode cX2_takenByReturning 1 = .ok (.istore_n 1, 1) := by decide +kernel
theorem dX2_takenByReturning_2 : decode cX2_takenByReturning 2 = .ok (.iconst 0, 1) := by decide +kernel
theorem dX2_takenByReturning_3 : decode cX2_takenByReturning 3 = .ok (.istore_n 2, 1) := by decide +kernel
theorem dX2_takenByReturning_4 : decode cX2_takenByReturning 4 = .ok (.iload_n 2, 1) := by decide +kernel
theorem dX2_takenByReturning_5 : decode cX2_takenByReturning 5 = .ok (.aload_n 0, 1) := by decide +kernel
theorem dX2_takenByReturning_6 : decode cX2_takenByReturning 6 = .ok (.getfield 10, 3) := by decide +kernel
theorem dX2_takenByReturning_9 : decode cX2_takenByReturning 9 = .ok (.invokevirtual 34, 3) := by decide +kernel
theorem dX2_takenByReturning_12 : decode cX2_takenByReturning 12 = .ok (.if_icmp .ge 35, 3) := by decide +kernel
theorem dX2_takenByReturning_15 : decode cX2_takenByReturning 15 = .ok (.aload_n 0, 1) := by decide +kernel
theorem dX2_takenByReturning_16 : decode cX2_takenByReturning 16 = .ok (.getfield 10, 3) := by decide +kernel
theorem dX2_takenByReturning_19 : decode cX2_takenByReturning 19 = .ok (.iload_n 2, 1) := by decide +kernel
theorem dX2_takenByReturning_20 : decode cX2_takenByReturning 20 = .ok (.invokevirtual 65, 3) := by decide +kernel
theorem dX2_takenByReturning_23 : decode cX2_takenByReturning 23 = .ok (.checkcast 45, 3) := by decide +kernel
theorem dX2_takenByReturning_26 : decode cX2_takenByReturning 26 = .ok (.astore_n 3, 1) := by decide +kernel
theorem dX2_takenByReturning_27 : decode cX2_takenByReturning 27 = .ok (.aload_n 3, 1) := by decide +kernel
theorem dX2_takenByReturning_28 : decode cX2_takenByReturning 28 = .ok (.invokevirtual 156, 3) := by decide +kernel
theorem dX2_takenByReturning_31 : decode cX2_takenByReturning 31 = .ok (.ifCond .eq 10, 3) := by decide +kernel
theorem dX2_takenByReturning_34 : decode cX2_takenByReturning 34 = .ok (.iload_n 1, 1) := by decide +kernel
theorem dX2_takenByReturning_35 : decode cX2_takenByReturning 35 = .ok (.aload_n 3, 1) := by decide +kernel
theorem dX2_takenByReturning_36 : decode cX2_takenByReturning 36 = .ok (.invokevirtual 143, 3) := by decide +kernel
theorem dX2_takenByReturning_39 : decode cX2_takenByReturning 39 = .ok (.iadd, 1) := by decide +kernel
theorem dX2_takenByReturning_40 : decode cX2_takenByReturning 40 = .ok (.istore_n 1, 1) := by decide +kernel
theorem dX2_takenByReturning_41 : decode cX2_takenByReturning 41 = .ok (.iinc 2 1, 3) := by decide +kernel
theorem dX2_takenByReturning_44 : decode cX2_takenByReturning 44 = .ok (.goto (-40), 3) := by decide +kernel
theorem dX2_takenByReturning_47 : decode cX2_takenByReturning 47 = .ok (.iload_n 1, 1) := by decide +kernel
theorem dX2_takenByReturning_48 : decode cX2_takenByReturning 48 = .ok (.ireturn, 1) := by decide +kernel
set_option maxRecDepth 20000 in
theorem ggX2_swapFor_Jx4a65c_size_8abf5 : GoodIn wsX2_swapFor wsJx4a65c_size_8abf5 := goodIn_r _ [7, 8, 65, 66, 67] (by decide +kernel) (by decide +kernel)
set_option maxRecDepth 20000 in
theorem gX2_swapFor_Jx4a65c_size_8abf5 : GoodIn wsX2_swapFor (wsV RX2 34 RJx4a65c yJx4a65c_size_8abf5 wsJx4a65c_size_8abf5) := goodIn_app (goodIn_of _ (by decide +kernel)) ggX2_swapFor_Jx4a65c_size_8abf5
set_option maxRecDepth 20000 in
theorem ggX2_swapFor_Jx4a65c_get_915e3 : GoodIn wsX2_swapFor wsJx4a65c_get_915e3 := goodIn_r _ [12, 8, 13, 14, 15, 16, 17, 18, 19, 20, 21, 22, 23, 6, 24, 25, 65, 66, 67] (by decide +kernel) (by decide +kernel)
set_option maxRecDepth 20000 in
theorem gX2_swapFor_Jx4a65c_get_915e3 : GoodIn wsX2_swapFor (wsV RX2 65 RJx4a65c yJx4a65c_get_915e3 wsJx4a65c_get_915e3) := goodIn_app (goodIn_of _ (by decide +kernel)) ggX2_swapFor_Jx4a65c_get_915e3
set_option maxRecDepth 20000 in
theorem ggX2_swapFor_X0_mayReturn : GoodIn wsX2_swapFor wsX0_mayReturn := goodIn_r _ [29, 30, 31, 68, 69, 70, 71, 72, 73, 74] (by decide +kernel) (by decide +kernel)
set_option maxRecDepth 20000 in
theorem gX2_swapFor_X0_mayReturn_n156 : GoodIn wsX2_swapFor (wsX0_mayReturn) := ggX2_swapFor_X0_mayReturn
set_option maxRecDepth 20000 in
theorem ggX2_swapFor_X0_switchOn : GoodIn wsX2_swapFor wsX0_switchOn := goodIn_r _ [34, 35, 30, 36, 37, 38, 27, 39, 40, 41, 42, 43, 44, 68, 69, 70, 71, 72, 73, 74] (by decide +kernel) (by decide +kernel)
set_option maxRecDepth 20000 in
theorem gX2_swapFor_X0_switchOn_n109 : GoodIn wsX2_swapFor (wsX0_switchOn) := ggX2_swapFor_X0_switchOn
set_option maxRecDepth 20000 in
theorem ggX2_swapFor_X2_holds : GoodIn wsX2_swapFor wsX2_holds := goodIn_r _ [48] (by decide +kernel) (by decide +kernel)
set_option maxRecDepth 20000 in
theorem gX2_swapFor_X2_holds : GoodIn wsX2_swapFor (va_wsS RX2 82 yX2_holds wsX2_holds) := goodIn_app (goodIn_of _ (by decide +kernel)) ggX2_swapFor_X2_holds
set_option maxRecDepth 20000 in
theorem ggX2_swapFor_X0_switchOff : GoodIn wsX2_swapFor wsX0_switchOff := goodIn_r _ [51, 30, 40, 35, 52, 53, 54, 27, 55, 56, 57, 58, 59, 60, 68, 69, 70, 71, 72, 73, 74] (by decide +kernel) (by decide +kernel)
set_option maxRecDepth 20000 in
theorem gX2_swapFor_X0_switchOff_n86 : GoodIn wsX2_swapFor (wsX0_switchOff) := ggX2_swapFor_X0_switchOff
theorem dX2_swapFor_0 : decode cX2_swapFor 0 = .ok (.iconst 0, 1) := by decide +kernel
theorem dX2_swapFor_1 : decode cX2_swapFor 1 = .ok (.istore_n 2, 1) := by decide +kernel
theorem dX2_swapFor_2 : decode cX2_swapFor 2 = .ok (.iconst 0, 1) := by decide +kernel
theorem dX2_swapFor_3 : decode cX2_swapFor 3 = .ok (.istore_n 3, 1) := by decide +kernel
theorem dX2_swapFor_4 : decode cX2_swapFor 4 = .ok (.iload_n 3, 1) := by decide +kernel
theorem dX2_swapFor_5 : decode cX2_swapFor 5 = .ok (.aload_n 0, 1) := by decide +kernel
theorem dX2_swapFor_6 : decode cX2_swapFor 6 = .ok (.getfield 10, 3) := by decide +kernel
theorem dX2_swapFor_9 : decode cX2_swapFor 9 = .ok (.invokevirtual 34, 3) := by decide +kernel
theorem dX2_swapFor_12 : decode cX2_swapFor 12 = .ok (.if_icmp .ge 55, 3) := by decide +kernel
theorem dX2_swapFor_15 : decode cX2_swapFor 15 = .ok (.aload_n 0, 1) := by decide +kernel
theorem dX2_swapFor_16 : decode cX2_swapFor 16 = .ok (.getfield 10, 3) := by decide +kernel
theorem dX2_swapFor_19 : decode cX2_swapFor 19 = .ok (.iload_n 3, 1) := by decide +kernel
theorem dX2_swapFor_20 : decode cX2_swapFor 20 = .ok (.invokevirtual 65, 3) := by decide +kernel
theorem dX2_swapFor_23 : decode cX2_swapFor 23 = .ok (.checkcast 45, 3) := by decide +kernel
theorem dX2_swapFor_26 : decode cX2_swapFor 26 = .ok (.astore 4, 2) := by decide +kernel
theorem dX2_swapFor_28 : decode cX2_swapFor 28 = .ok (.aload 4, 2) := by decide +kernel
theorem dX2_swapFor_30 : decode cX2_swapFor 30 = .ok (.invokevirtual 156, 3) := by decide +kernel
theorem dX2_swapFor_33 : decode cX2_swapFor 33 = .ok (.ifCond .eq 14, 3) := by decide +kernel
theorem dX2_swapFor_36 : decode cX2_swapFor 36 = .ok (.aload 4, 2) := by decide +kernel
theorem dX2_swapFor_38 : decode cX2_swapFor 38 = .ok (.invokevirtual 109, 3) := by decide +kernel
theorem dX2_swapFor_41 : decode cX2_swapFor 41 = .ok (.iinc 2 1, 3) := by decide +kernel
theorem dX2_swapFor_44 : decode cX2_swapFor 44 = .ok (.goto 17, 3) := by decide +kernel
theorem dX2_swapFor_47 : decode cX2_swapFor 47 = .ok (.iload_n 1, 1) := by decide +kernel
theorem dX2_swapFor_48 : decode cX2_swapFor 48 = .ok (.iload_n 3, 1) := by decide +kernel
theorem dX2_swapFor_49 : decode cX2_swapFor 49 = .ok (.invokestatic 82, 3) := by decide +kernel
theorem dX2_swapFor_52 : decode cX2_swapFor 52 = .ok (.ifCond .eq 9, 3) := by decide +kernel
theorem dX2_swapFor_55 : decode cX2_swapFor 55 = .ok (.aload 4, 2) := by decide +kernel
theorem dX2_swapFor_57 : decode cX2_swapFor 57 = .ok (.invokevirtual 86, 3) := by decide +kernel
theorem dX2_swapFor_60 : decode cX2_swapFor 60 = .ok (.pop, 1) := by decide +kernel
theorem dX2_swapFor_61 : decode cX2_swapFor 61 = .ok (.iinc 3 1, 3) := by decide +kernel
theorem dX2_swapFor_64 : decode cX2_swapFor 64 = .ok (.goto (-60), 3) := by decide +kernel
theorem dX2_swapFor_67 : decode cX2_swapFor 67 = .ok (.iload_n 2, 1) := by decide +kernel
theorem dX2_swapFor_68 : decode cX2_swapFor 68 = .ok (.ireturn, 1) := by decide +kernel
set_option maxRecDepth 20000 in
theorem ggX2_chosenFor_X2_prepareSearch : GoodIn wsX2_chosenFor wsX2_prepareSearch := goodIn_r _ [6, 1, 7, 8, 9, 10, 11, 12, 13, 14, 15, 16, 17, 18, 19, 20, 21, 22, 23, 24, 25, 26, 27, 28, 29, 30, 31, 32, 33, 34, 35, 36, 37, 38, 39, 40, 41, 42, 43, 44, 45, 46, 47, 48, 49, 50, 51, 52, 53, 54, 55, 56, 57, 58, 59, 60, 61, 62, 79, 80, 81, 82, 83, 84, 85, 86, 87, 88, 89, 90, 91, 92, 93, 94, 95, 96, 97, 98, 99, 100, 101, 102] (by decide +kernel) (by decide +kernel)
set_option maxRecDepth 20000 in
theorem gX2_chosenFor_X2_prepareSearch : GoodIn wsX2_chosenFor (wsV RX2 132 RX2 yX2_prepareSearch wsX2_prepareSearch) := goodIn_app (goodIn_of _ (by decide +kernel)) ggX2_chosenFor_X2_prepareSearch
set_option maxRecDepth 20000 in
theorem ggX2_chosenFor_X1_bestByWalking : GoodIn wsX2_chosenFor wsX1_bestByWalking := goodIn_r _ [65, 16, 17, 66, 67, 11, 68, 14, 62, 59, 60, 61, 69, 70, 71, 72, 73, 74, 75, 76, 77, 78, 15, 90, 91, 92, 93, 94, 95, 96, 97, 98, 99] (by decide +kernel) (by decide +kernel)
set_option maxRecDepth 20000 in
theorem gX2_chosenFor_X1_bestByWalking_n159 : GoodIn wsX2_chosenFor (wsX1_bestByWalking) := ggX2_chosenFor_X1_bestByWalking
theorem dX2_chosenFor_0 : decode cX2_chosenFor 0 = .ok (.aload_n 0, 1) := by decide +kernel
theorem dX2_chosenFor_1 : decode cX2_chosenFor 1 = .ok (.iload_n 1, 1) := by decide +kernel
theorem dX2_chosenFor_2 : decode cX2_chosenFor 2 = .ok (.invokevirtual 132, 3) := by decide +kernel
theorem dX2_chosenFor_5 : decode cX2_chosenFor 5 = .ok (.aload_n 0, 1) := by decide +kernel
theorem dX2_chosenFor_6 : decode cX2_chosenFor 6 = .ok (.getfield 19, 3) := by decide +kernel
theorem dX2_chosenFor_9 : decode cX2_chosenFor 9 = .ok (.invokevirtual 159, 3) := by decide +kernel
theorem dX2_chosenFor_12 : decode cX2_chosenFor 12 = .ok (.ireturn, 1) := by decide +kernel
set_option maxRecDepth 20000 in
theorem ggX2_prepareSearch_X1_begin : GoodIn wsX2_prepareSearch wsX1_begin := goodIn_r _ [8, 9, 10, 11, 12, 69, 70, 71, 72, 73, 74, 75, 76, 77, 78] (by decide +kernel) (by decide +kernel)
set_option maxRecDepth 20000 in
theorem gX2_prepareSearch_X1_begin_n162 : GoodIn wsX2_prepareSearch (wsX1_begin) := ggX2_prepareSearch_X1_begin
set_option maxRecDepth 20000 in
theorem ggX2_prepareSearch_Jx4a65c_size_8abf5 : GoodIn wsX2_prepareSearch wsJx4a65c_size_8abf5 := goodIn_r _ [17, 18, 79, 80, 81] (by decide +kernel) (by decide +kernel)
set_option maxRecDepth 20000 in
theorem gX2_prepareSearch_Jx4a65c_size_8abf5 : GoodIn wsX2_prepareSearch (wsV RX2 34 RJx4a65c yJx4a65c_size_8abf5 wsJx4a65c_size_8abf5) := goodIn_app (goodIn_of _ (by decide +kernel)) ggX2_prepareSearch_Jx4a65c_size_8abf5
set_option maxRecDepth 20000 in
theorem ggX2_prepareSearch_Jx4a65c_get_915e3 : GoodIn wsX2_prepareSearch wsJx4a65c_get_915e3 := goodIn_r _ [22, 18, 23, 24, 25, 26, 27, 28, 29, 30, 31, 32, 33, 16, 34, 35, 79, 80, 81] (by decide +kernel) (by decide +kernel)
set_option maxRecDepth 20000 in
theorem gX2_prepareSearch_Jx4a65c_get_915e3 : GoodIn wsX2_prepareSearch (wsV RX2 65 RJx4a65c yJx4a65c_get_915e3 wsJx4a65c_get_915e3) := goodIn_app (goodIn_of _ (by decide +kernel)) ggX2_prepareSearch_Jx4a65c_get_915e3
set_option maxRecDepth 20000 in
theorem ggX2_prepareSearch_X0_mayBeCut : GoodIn wsX2_prepareSearch wsX0_mayBeCut := goodIn_r _ [39, 40, 41, 62, 63, 64, 65, 66, 67, 68] (by decide +kernel) (by decide +kernel)
set_option maxRecDepth 20000 in
theorem gX2_prepareSearch_X0_mayBeCut_n97 : GoodIn wsX2_prepareSearch (wsX0_mayBeCut) := ggX2_prepareSearch_X0_mayBeCut
set_option maxRecDepth 20000 in
theorem ggX2_prepareSearch_X0_taken : GoodIn wsX2_prepareSearch wsX0_taken := goodIn_r _ [44, 40, 45, 46, 47, 48, 37, 49, 50, 62, 63, 64, 65, 66, 67, 68] (by decide +kernel) (by decide +kernel)
set_option maxRecDepth 20000 in
theorem gX2_prepareSearch_X0_taken_n112 : GoodIn wsX2_prepareSearch (wsX0_taken) := ggX2_prepareSearch_X0_taken
set_option maxRecDepth 20000 in
theorem ggX2_prepareSearch_X1_offer : GoodIn wsX2_prepareSearch wsX1_offer := goodIn_r _ [53, 11, 54, 55, 56, 57, 69, 70, 71, 72, 73, 74, 75, 76, 77, 78] (by decide +kernel) (by decide +kernel)
set_option maxRecDepth 20000 in
theorem gX2_prepareSearch_X1_offer_n166 : GoodIn wsX2_prepareSearch (wsX1_offer) := ggX2_prepareSearch_X1_offer
theorem dX2_prepareSearch_0 : decode cX2_prepareSearch 0 = .ok (.aload_n 0, 1) := by decide +kernel
theorem dX2_prepareSearch_1 : decode cX2_prepareSearch 1 = .ok (.getfield 19, 3) := by decide +kernel
theorem dX2_prepareSearch_4 : decode cX2_prepareSearch 4 = .ok (.iload_n 1, 1) := by decide +kernel
theorem dX2_prepareSearch_5 : decode cX2_prepareSearch 5 = .ok (.aload_n 0, 1) := by decide +kernel
theorem dX2_prepareSearch_6 : decode cX2_prepareSearch 6 = .ok (.getfield 27, 3) := by decide +kernel
theorem dX2_prepareSearch_9 : decode cX2_prepareSearch 9 = .ok (.invokevirtual 162, 3) := by decide +kernel
theorem dX2_prepareSearch_12 : decode cX2_prepareSearch 12 = .ok (.iconst 0, 1) := by decide +kernel
theorem dX2_prepareSearch_13 : decode cX2_prepareSearch 13 = .ok (.istore_n 2, 1) := by decide +kernel
theorem dX2_prepareSearch_14 : decode cX2_prepareSearch 14 = .ok (.iload_n 2, 1) := by decide +kernel
theorem dX2_prepareSearch_15 : decode cX2_prepareSearch 15 = .ok (.aload_n 0, 1) := by decide +kernel
theorem dX2_prepareSearch_16 : decode cX2_prepareSearch 16 = .ok (.getfield 10, 3) := by decide +kernel
theorem dX2_prepareSearch_19 : decode cX2_prepareSearch 19 = .ok (.invokevirtual 34, 3) := by decide +kernel
theorem dX2_prepareSearch_22 : decode cX2_prepareSearch 22 = .ok (.if_icmp .ge 44, 3) := by decide +kernel
theorem dX2_prepareSearch_25 : decode cX2_prepareSearch 25 = .ok (.aload_n 0, 1) := by decide +kernel
theorem dX2_prepareSearch_26 : decode cX2_prepareSearch 26 = .ok (.getfield 10, 3) := by decide +kernel
theorem dX2_prepareSearch_29 : decode cX2_prepareSearch 29 = .ok (.iload_n 2, 1) := by decide +kernel
theorem dX2_prepareSearch_30 : decode cX2_prepareSearch 30 = .ok (.invokevirtual 65, 3) := by decide +kernel
theorem dX2_prepareSearch_33 : decode cX2_prepareSearch 33 = .ok (.checkcast 45, 3) := by decide +kernel
theorem dX2_prepareSearch_36 : decode cX2_prepareSearch 36 = .ok (.astore_n 3, 1) := by decide +kernel
theorem dX2_prepareSearch_37 : decode cX2_prepareSearch 37 = .ok (.aload_n 3, 1) := by decide +kernel
theorem dX2_prepareSearch_38 : decode cX2_prepareSearch 38 = .ok (.invokevirtual 97, 3) := by decide +kernel
theorem dX2_prepareSearch_41 : decode cX2_prepareSearch 41 = .ok (.ifCond .eq 19, 3) := by decide +kernel
theorem dX2_prepareSearch_44 : decode cX2_prepareSearch 44 = .ok (.aload_n 0, 1) := by decide +kernel
theorem dX2_prepareSearch_45 : decode cX2_prepareSearch 45 = .ok (.getfield 19, 3) := by decide +kernel
theorem dX2_prepareSearch_48 : decode cX2_prepareSearch 48 = .ok (.iload_n 2, 1) := by decide +kernel
theorem dX2_prepareSearch_49 : decode cX2_prepareSearch 49 = .ok (.aload_n 3, 1) := by decide +kernel
theorem dX2_prepareSearch_50 : decode cX2_prepareSearch 50 = .ok (.invokevirtual 112, 3) := by decide +kernel
theorem dX2_prepareSearch_53 : decode cX2_prepareSearch 53 = .ok (.aload_n 3, 1) := by decide +kernel
theorem dX2_prepareSearch_54 : decode cX2_prepareSearch 54 = .ok (.getfield 120, 3) := by decide +kernel
theorem dX2_prepareSearch_57 : decode cX2_prepareSearch 57 = .ok (.invokevirtual 166, 3) := by decide +kernel
theorem dX2_prepareSearch_60 : decode cX2_prepareSearch 60 = .ok (.iinc 2 1, 3) := by decide +kernel
theorem dX2_prepareSearch_63 : decode cX2_prepareSearch 63 = .ok (.goto (-49), 3) := by decide +kernel
theorem dX2_prepareSearch_66 : decode cX2_prepareSearch 66 = .ok (.return_, 1) := by decide +kernel
end
section
theorem dL_cell_0 : decode cL_cell 0 = .ok (.iload_n 1, 1) := by decide +kernel
theorem dL_cell_1 : decode cL_cell 1 = .ok (.aload_n 0, 1) := by decide +kernel
theorem dL_cell_2 : decode cL_cell 2 = .ok (.arraylength, 1) := by decide +kernel
theorem dL_cell_3 : decode cL_cell 3 = .ok (.if_icmp .ge 9, 3) := by decide +kernel
theorem dL_cell_6 : decode cL_cell 6 = .ok (.aload_n 0, 1) := by decide +kernel
theorem dL_cell_7 : decode cL_cell 7 = .ok (.iload_n 1, 1) := by decide +kernel
theorem dL_cell_8 : decode cL_cell 8 = .ok (.iaload, 1) := by decide +kernel
theorem dL_cell_9 : decode cL_cell 9 = .ok (.goto 9, 3) := by decide +kernel
theorem dL_cell_12 : decode cL_cell 12 = .ok (.ldc 7, 2) := by decide +kernel
theorem dL_cell_14 : decode cL_cell 14 = .ok (.iload_n 1, 1) := by decide +kernel
theorem dL_cell_15 : decode cL_cell 15 = .ok (.iconst 1, 1) := by decide +kernel
theorem dL_cell_16 : decode cL_cell 16 = .ok (.iadd, 1) := by decide +kernel
theorem dL_cell_17 : decode cL_cell 17 = .ok (.imul, 1) := by decide +kernel
theorem dL_cell_18 : decode cL_cell 18 = .ok (.ireturn, 1) := by decide +kernel
theorem dL_at_0 : decode cL_at 0 = .ok (.iload_n 0, 1) := by decide +kernel
theorem dL_at_1 : decode cL_at 1 = .ok (.iconst 1, 1) := by decide +kernel
theorem dL_at_2 : decode cL_at 2 = .ok (.iushr, 1) := by decide +kernel
theorem dL_at_3 : decode cL_at 3 = .ok (.iload_n 1, 1) := by decide +kernel
theorem dL_at_4 : decode cL_at 4 = .ok (.irem, 1) := by decide +kernel
theorem dL_at_5 : decode cL_at 5 = .ok (.ireturn, 1) := by decide +kernel
set_option maxRecDepth 20000 in
theorem ggL_out_X2_feeders : GoodIn wsL_out wsX2_feeders := goodIn_r _ [5, 6, 7, 8, 9, 10, 11, 12, 41, 42, 43, 44, 45, 46, 47] (by decide +kernel) (by decide +kernel)
set_option maxRecDepth 20000 in
theorem gL_out_X2_feeders : GoodIn wsL_out (wsV RL 8 RX2 yX2_feeders wsX2_feeders) := goodIn_app (goodIn_of _ (by decide +kernel)) ggL_out_X2_feeders
set_option maxRecDepth 20000 in
theorem ggL_out_X2_isCut : GoodIn wsL_out wsX2_isCut := goodIn_ca (goodIn_r _ [16, 17, 18, 19, 4, 20, 21, 22, 6, 23, 7, 8, 9, 10, 11, 12, 24, 25, 26, 27, 28, 29, 30, 31, 32, 33, 34, 35, 36, 37, 38, 39, 40, 48, 49, 50, 51, 52, 53, 54, 41, 42, 43, 44, 45, 46, 47] (by decide +kernel) (by decide +kernel)) (goodIn_sub (fun _ h => List.mem_cons_of_mem _ (List.mem_append_right _ h)) (by decide +kernel))
set_option maxRecDepth 20000 in
theorem gL_out_X2_isCut : GoodIn wsL_out (wsV RL 14 RX2 yX2_isCut wsX2_isCut) := goodIn_app (goodIn_of _ (by decide +kernel)) ggL_out_X2_isCut
theorem dL_out_0 : decode cL_out 0 = .ok (.iconst 0, 1) := by decide +kernel
theorem dL_out_1 : decode cL_out 1 = .ok (.istore_n 1, 1) := by decide +kernel
theorem dL_out_2 : decode cL_out 2 = .ok (.iconst 0, 1) := by decide +kernel
theorem dL_out_3 : decode cL_out 3 = .ok (.istore_n 2, 1) := by decide +kernel
theorem dL_out_4 : decode cL_out 4 = .ok (.iload_n 2, 1) := by decide +kernel
theorem dL_out_5 : decode cL_out 5 = .ok (.aload_n 0, 1) := by decide +kernel
theorem dL_out_6 : decode cL_out 6 = .ok (.invokevirtual 8, 3) := by decide +kernel
theorem dL_out_9 : decode cL_out 9 = .ok (.if_icmp .ge 27, 3) := by decide +kernel
theorem dL_out_12 : decode cL_out 12 = .ok (.iload_n 1, 1) := by decide +kernel
theorem dL_out_13 : decode cL_out 13 = .ok (.aload_n 0, 1) := by decide +kernel
theorem dL_out_14 : decode cL_out 14 = .ok (.iload_n 2, 1) := by decide +kernel
theorem dL_out_15 : decode cL_out 15 = .ok (.invokevirtual 14, 3) := by decide +kernel
theorem dL_out_18 : decode cL_out 18 = .ok (.ifCond .eq 9, 3) := by decide +kernel
theorem dL_out_21 : decode cL_out 21 = .ok (.iconst 1, 1) := by decide +kernel
theorem dL_out_22 : decode cL_out 22 = .ok (.iload_n 2, 1) := by decide +kernel
theorem dL_out_23 : decode cL_out 23 = .ok (.ishl, 1) := by decide +kernel
theorem dL_out_24 : decode cL_out 24 = .ok (.goto 4, 3) := by decide +kernel
theorem dL_out_27 : decode cL_out 27 = .ok (.iconst 0, 1) := by decide +kernel
theorem dL_out_28 : decode cL_out 28 = .ok (.ior, 1) := by decide +kernel
theorem dL_out_29 : decode cL_out 29 = .ok (.istore_n 1, 1) := by decide +kernel
theorem dL_out_30 : decode cL_out 30 = .ok (.iinc 2 1, 3) := by decide +kernel
theorem dL_out_33 : decode cL_out 33 = .ok (.goto (-29), 3) := by decide +kernel
theorem dL_out_36 : decode cL_out 36 = .ok (.iload_n 1, 1) := by decide +kernel
theorem dL_out_37 : decode cL_out 37 = .ok (.ireturn, 1) := by decide +kernel
set_option maxRecDepth 20000 in
theorem ggL_taken_X2_feeders : GoodIn wsL_taken wsX2_feeders := goodIn_r _ [5, 6, 7, 8, 9, 10, 11, 12, 52, 53, 54, 55, 56, 57, 58] (by decide +kernel) (by decide +kernel)
set_option maxRecDepth 20000 in
theorem gL_taken_X2_feeders : GoodIn wsL_taken (wsV RL 8 RX2 yX2_feeders wsX2_feeders) := goodIn_app (goodIn_of _ (by decide +kernel)) ggL_taken_X2_feeders
set_option maxRecDepth 20000 in
theorem ggL_taken_X2_takes : GoodIn wsL_taken wsX2_takes := goodIn_ca (goodIn_r _ [16, 17, 18, 19, 4, 20, 21, 22, 6, 23, 7, 8, 9, 10, 11, 12, 24, 25, 26, 27, 28, 29, 30, 31, 32, 33, 34, 35, 36, 37, 38, 39, 40, 41, 42, 43, 44, 45, 46, 47, 48, 49, 50, 51, 52, 53, 54, 55, 56, 57, 58, 59, 60, 61, 62, 63, 64, 65] (by decide +kernel) (by decide +kernel)) (goodIn_sub (fun _ h => List.mem_cons_of_mem _ (List.mem_append_right _ h)) (by decide +kernel))
set_option maxRecDepth 20000 in
theorem gL_taken_X2_takes : GoodIn wsL_taken (wsV RL 18 RX2 yX2_takes wsX2_takes) := goodIn_app (goodIn_of _ (by decide +kernel)) ggL_taken_X2_takes
theorem dL_taken_0 : decode cL_taken 0 = .ok (.iconst 0, 1) := by decide +kernel
theorem dL_taken_1 : decode cL_taken 1 = .ok (.istore_n 2, 1) := by decide +kernel
theorem dL_taken_2 : decode cL_taken 2 = .ok (.iconst 0, 1) := by decide +kernel
theorem dL_taken_3 : decode cL_taken 3 = .ok (.istore_n 3, 1) := by decide +kernel
theorem dL_taken_4 : decode cL_taken 4 = .ok (.iload_n 3, 1) := by decide +kernel
theorem dL_taken_5 : decode cL_taken 5 = .ok (.aload_n 0, 1) := by decide +kernel
theorem dL_taken_6 : decode cL_taken 6 = .ok (.invokevirtual 8, 3) := by decide +kernel
theorem dL_taken_9 : decode cL_taken 9 = .ok (.if_icmp .ge 30, 3) := by decide +kernel
theorem dL_taken_12 : decode cL_taken 12 = .ok (.iload_n 2, 1) := by decide +kernel
theorem dL_taken_13 : decode cL_taken 13 = .ok (.iload_n 1, 1) := by decide +kernel
theorem dL_taken_14 : decode cL_taken 14 = .ok (.iload_n 3, 1) := by decide +kernel
theorem dL_taken_15 : decode cL_taken 15 = .ok (.ishr, 1) := by decide +kernel
theorem dL_taken_16 : decode cL_taken 16 = .ok (.iconst 1, 1) := by decide +kernel
theorem dL_taken_17 : decode cL_taken 17 = .ok (.iand, 1) := by decide +kernel
theorem dL_taken_18 : decode cL_taken 18 = .ok (.iconst 1, 1) := by decide +kernel
theorem dL_taken_19 : decode cL_taken 19 = .ok (.if_icmp .ne 11, 3) := by decide +kernel
theorem dL_taken_22 : decode cL_taken 22 = .ok (.aload_n 0, 1) := by decide +kernel
theorem dL_taken_23 : decode cL_taken 23 = .ok (.iload_n 3, 1) := by decide +kernel
theorem dL_taken_24 : decode cL_taken 24 = .ok (.invokevirtual 18, 3) := by decide +kernel
theorem dL_taken_27 : decode cL_taken 27 = .ok (.goto 4, 3) := by decide +kernel
theorem dL_taken_30 : decode cL_taken 30 = .ok (.iconst 0, 1) := by decide +kernel
theorem dL_taken_31 : decode cL_taken 31 = .ok (.iadd, 1) := by decide +kernel
theorem dL_taken_32 : decode cL_taken 32 = .ok (.istore_n 2, 1) := by decide +kernel
theorem dL_taken_33 : decode cL_taken 33 = .ok (.iinc 3 1, 3) := by decide +kernel
theorem dL_taken_36 : decode cL_taken 36 = .ok (.goto (-32), 3) := by decide +kernel
theorem dL_taken_39 : decode cL_taken 39 = .ok (.iload_n 2, 1) := by decide +kernel
theorem dL_taken_40 : decode cL_taken 40 = .ok (.ireturn, 1) := by decide +kernel
set_option maxRecDepth 20000 in
theorem ggL_relieves_L_out : GoodIn wsL_relieves wsL_out := goodIn_ca (goodIn_r _ [4, 5, 6, 7, 8, 9, 10, 11, 12, 13, 14, 15, 16, 17, 18, 19, 20, 21, 22, 23, 24, 25, 26, 27, 28, 29, 30, 31, 32, 33, 34, 35, 36, 37, 38, 39, 40, 41, 42, 43, 44, 135, 136, 137, 138, 139, 140, 141, 142, 143, 144, 145, 146, 147, 148] (by decide +kernel) (by decide +kernel)) (goodIn_sub (fun _ h => List.mem_cons_of_mem _ (List.mem_append_left _ (List.mem_append_left _ (List.mem_append_right _ h)))) (by decide +kernel))
set_option maxRecDepth 20000 in
theorem gL_relieves_L_out : GoodIn wsL_relieves (va_wsS RL 22 yL_out wsL_out) := goodIn_app (goodIn_of _ (by decide +kernel)) ggL_relieves_L_out
set_option maxRecDepth 20000 in
theorem ggL_relieves_X2_load : GoodIn wsL_relieves wsX2_load := goodIn_r _ [48, 10, 27, 11, 12, 13, 14, 15, 16, 28, 29, 30, 31, 32, 33, 34, 35, 36, 37, 38, 39, 40, 41, 42, 43, 44, 49, 50, 51, 52, 53, 54, 55, 56, 57, 58, 59, 135, 136, 137, 138, 139, 140, 141, 142, 143, 144, 145, 146, 147, 148] (by decide +kernel) (by decide +kernel)
set_option maxRecDepth 20000 in
theorem gL_relieves_X2_load : GoodIn wsL_relieves (wsV RL 28 RX2 yX2_load wsX2_load) := goodIn_app (goodIn_of _ (by decide +kernel)) ggL_relieves_X2_load
set_option maxRecDepth 20000 in
theorem ggL_relieves_X2_choice : GoodIn wsL_relieves wsX2_choice := goodIn_ca (goodIn_r _ [63, 64, 65, 8, 66, 67, 68, 69, 70, 71, 72, 73, 74, 75, 76, 77, 78, 10, 27, 79, 80, 81, 82, 83, 84, 85, 86, 11, 12, 13, 14, 15, 16, 28, 29, 30, 31, 32, 33, 34, 35, 36, 37, 38, 39, 40, 41, 42, 43, 44, 87, 50, 88, 89, 53, 90, 49, 51, 52, 54, 55, 56, 57, 58, 59, 91, 92, 93, 94, 95, 96, 97, 98, 99, 100, 101, 102, 103, 104, 105, 106, 107, 108, 109, 110, 111, 112, 113, 135, 136, 137, 138, 142, 143, 144, 145, 146, 147, 148, 149, 150, 151, 152, 153, 154, 155, 156, 157, 158, 139, 140, 141] (by decide +kernel) (by decide +kernel)) (goodIn_sub (fun _ h => List.mem_cons_of_mem _ (List.mem_append_left _ (List.mem_append_right _ h))) (by decide +kernel))
set_option maxRecDepth 20000 in
theorem gL_relieves_X2_choice : GoodIn wsL_relieves (wsV RL 31 RX2 yX2_choice wsX2_choice) := goodIn_app (goodIn_of _ (by decide +kernel)) ggL_relieves_X2_choice
set_option maxRecDepth 20000 in
theorem ggL_relieves_X2_feeders : GoodIn wsL_relieves wsX2_feeders := goodIn_r _ [9, 10, 11, 12, 13, 14, 15, 16, 135, 136, 137, 138, 139, 140, 141] (by decide +kernel) (by decide +kernel)
set_option maxRecDepth 20000 in
theorem gL_relieves_X2_feeders : GoodIn wsL_relieves (wsV RL 8 RX2 yX2_feeders wsX2_feeders) := goodIn_app (goodIn_of _ (by decide +kernel)) ggL_relieves_X2_feeders
set_option maxRecDepth 20000 in
theorem ggL_relieves_L_taken : GoodIn wsL_relieves wsL_taken := goodIn_ca (goodIn_r _ [116, 5, 6, 7, 8, 9, 10, 11, 12, 13, 14, 15, 16, 117, 118, 119, 120, 21, 22, 23, 24, 25, 26, 27, 28, 29, 30, 31, 32, 33, 34, 35, 36, 37, 38, 39, 40, 41, 42, 43, 44, 49, 50, 51, 52, 53, 54, 55, 56, 57, 58, 59, 135, 136, 137, 138, 139, 140, 141, 142, 143, 144, 145, 146, 147, 148] (by decide +kernel) (by decide +kernel)) (goodIn_sub (fun _ h => List.mem_cons_of_mem _ (List.mem_append_left _ (List.mem_append_left _ (List.mem_append_right _ h)))) (by decide +kernel))
set_option maxRecDepth 20000 in
theorem gL_relieves_L_taken : GoodIn wsL_relieves (va_wsS RL 34 yL_taken wsL_taken) := goodIn_app (goodIn_of _ (by decide +kernel)) ggL_relieves_L_taken
set_option maxRecDepth 20000 in
theorem ggL_relieves_X2_relieve : GoodIn wsL_relieves wsX2_relieve := goodIn_ca (goodIn_ca (goodIn_r _ [124, 125, 126, 10, 27, 64, 65, 8, 66, 67, 68, 69, 70, 71, 72, 73, 74, 75, 76, 77, 78, 79, 80, 81, 82, 83, 84, 85, 86, 11, 12, 13, 14, 15, 16, 28, 29, 30, 31, 32, 33, 34, 35, 36, 37, 38, 39, 40, 41, 42, 43, 44, 87, 50, 88, 89, 53, 90, 49, 51, 52, 54, 55, 56, 57, 58, 59, 91, 92, 93, 94, 95, 96, 97, 98, 99, 100, 101, 102, 103, 104, 105, 106, 107, 108, 109, 110, 111, 112, 113, 127, 128, 129, 130, 131, 132, 133, 134, 135, 136, 137, 138, 142, 143, 144, 145, 146, 147, 148, 149, 150, 151, 152, 153, 154, 155, 156, 157, 158, 139, 140, 141] (by decide +kernel) (by decide +kernel)) (goodIn_sub (fun _ h => List.mem_cons_of_mem _ (List.mem_append_right _ h)) (by decide +kernel))) (goodIn_sub (fun _ h => List.mem_cons_of_mem _ (List.mem_append_left _ (List.mem_append_right _ h))) (by decide +kernel))
set_option maxRecDepth 20000 in
theorem gL_relieves_X2_relieve : GoodIn wsL_relieves (wsV RL 38 RX2 yX2_relieve wsX2_relieve) := goodIn_app (goodIn_of _ (by decide +kernel)) ggL_relieves_X2_relieve
theorem dL_relieves_0 : decode cL_relieves 0 = .ok (.aload_n 0, 1) := by decide +kernel
theorem dL_relieves_1 : decode cL_relieves 1 = .ok (.invokestatic 22, 3) := by decide +kernel
theorem dL_relieves_4 : decode cL_relieves 4 = .ok (.istore_n 3, 1) := by decide +kernel
theorem dL_relieves_5 : decode cL_relieves 5 = .ok (.aload_n 0, 1) := by decide +kernel
theorem dL_relieves_6 : decode cL_relieves 6 = .ok (.invokevirtual 28, 3) := by decide +kernel
theorem dL_relieves_9 : decode cL_relieves 9 = .ok (.istore 4, 2) := by decide +kernel
theorem dL_relieves_11 : decode cL_relieves 11 = .ok (.aload_n 0, 1) := by decide +kernel
theorem dL_relieves_12 : decode cL_relieves 12 = .ok (.iload_n 1, 1) := by decide +kernel
theorem dL_relieves_13 : decode cL_relieves 13 = .ok (.invokevirtual 31, 3) := by decide +kernel
theorem dL_relieves_16 : decode cL_relieves 16 = .ok (.istore 5, 2) := by decide +kernel
theorem dL_relieves_18 : decode cL_relieves 18 = .ok (.iload 5, 2) := by decide +kernel
theorem dL_relieves_20 : decode cL_relieves 20 = .ok (.ifCond .ne 33, 3) := by decide +kernel
theorem dL_relieves_23 : decode cL_relieves 23 = .ok (.aload_n 0, 1) := by decide +kernel
theorem dL_relieves_24 : decode cL_relieves 24 = .ok (.iconst 1, 1) := by decide +kernel
theorem dL_relieves_25 : decode cL_relieves 25 = .ok (.aload_n 0, 1) := by decide +kernel
theorem dL_relieves_26 : decode cL_relieves 26 = .ok (.invokevirtual 8, 3) := by decide +kernel
theorem dL_relieves_29 : decode cL_relieves 29 = .ok (.ishl, 1) := by decide +kernel
theorem dL_relieves_30 : decode cL_relieves 30 = .ok (.iconst 1, 1) := by decide +kernel
theorem dL_relieves_31 : decode cL_relieves 31 = .ok (.isub, 1) := by decide +kernel
theorem dL_relieves_32 : decode cL_relieves 32 = .ok (.iload_n 2, 1) := by decide +kernel
theorem dL_relieves_33 : decode cL_relieves 33 = .ok (.iconst (-1), 1) := by decide +kernel
theorem dL_relieves_34 : decode cL_relieves 34 = .ok (.ixor, 1) := by decide +kernel
theorem dL_relieves_35 : decode cL_relieves 35 = .ok (.iand, 1) := by decide +kernel
theorem dL_relieves_36 : decode cL_relieves 36 = .ok (.iload_n 3, 1) := by decide +kernel
theorem dL_relieves_37 : decode cL_relieves 37 = .ok (.iconst (-1), 1) := by decide +kernel
theorem dL_relieves_38 : decode cL_relieves 38 = .ok (.ixor, 1) := by decide +kernel
theorem dL_relieves_39 : decode cL_relieves 39 = .ok (.iand, 1) := by decide +kernel
theorem dL_relieves_40 : decode cL_relieves 40 = .ok (.invokestatic 34, 3) := by decide +kernel
theorem dL_relieves_43 : decode cL_relieves 43 = .ok (.iload_n 1, 1) := by decide +kernel
theorem dL_relieves_44 : decode cL_relieves 44 = .ok (.if_icmp .ge 7, 3) := by decide +kernel
theorem dL_relieves_47 : decode cL_relieves 47 = .ok (.iconst 1, 1) := by decide +kernel
theorem dL_relieves_48 : decode cL_relieves 48 = .ok (.goto 4, 3) := by decide +kernel
theorem dL_relieves_51 : decode cL_relieves 51 = .ok (.iconst 0, 1) := by decide +kernel
theorem dL_relieves_52 : decode cL_relieves 52 = .ok (.ireturn, 1) := by decide +kernel
theorem dL_relieves_53 : decode cL_relieves 53 = .ok (.iload 5, 2) := by decide +kernel
theorem dL_relieves_55 : decode cL_relieves 55 = .ok (.iload_n 3, 1) := by decide +kernel
theorem dL_relieves_56 : decode cL_relieves 56 = .ok (.iand, 1) := by decide +kernel
theorem dL_relieves_57 : decode cL_relieves 57 = .ok (.ifCond .ne 20, 3) := by decide +kernel
theorem dL_relieves_60 : decode cL_relieves 60 = .ok (.iload 5, 2) := by decide +kernel
theorem dL_relieves_62 : decode cL_relieves 62 = .ok (.iload_n 2, 1) := by decide +kernel
theorem dL_relieves_63 : decode cL_relieves 63 = .ok (.iand, 1) := by decide +kernel
theorem dL_relieves_64 : decode cL_relieves 64 = .ok (.ifCond .ne 13, 3) := by decide +kernel
theorem dL_relieves_67 : decode cL_relieves 67 = .ok (.aload_n 0, 1) := by decide +kernel
theorem dL_relieves_68 : decode cL_relieves 68 = .ok (.iload 5, 2) := by decide +kernel
theorem dL_relieves_70 : decode cL_relieves 70 = .ok (.invokestatic 34, 3) := by decide +kernel
theorem dL_relieves_73 : decode cL_relieves 73 = .ok (.iload_n 1, 1) := by decide +kernel
theorem dL_relieves_74 : decode cL_relieves 74 = .ok (.if_icmp .ge 5, 3) := by decide +kernel
theorem dL_relieves_77 : decode cL_relieves 77 = .ok (.iconst 0, 1) := by decide +kernel
theorem dL_relieves_78 : decode cL_relieves 78 = .ok (.ireturn, 1) := by decide +kernel
theorem dL_relieves_79 : decode cL_relieves 79 = .ok (.aload_n 0, 1) := by decide +kernel
theorem dL_relieves_80 : decode cL_relieves 80 = .ok (.iload_n 1, 1) := by decide +kernel
theorem dL_relieves_81 : decode cL_relieves 81 = .ok (.invokevirtual 38, 3) := by decide +kernel
theorem dL_relieves_84 : decode cL_relieves 84 = .ok (.istore 6, 2) := by decide +kernel
theorem dL_relieves_86 : decode cL_relieves 86 = .ok (.iload 6, 2) := by decide +kernel
theorem dL_relieves_88 : decode cL_relieves 88 = .ok (.iload_n 1, 1) := by decide +kernel
theorem dL_relieves_89 : decode cL_relieves 89 = .ok (.if_icmp .lt 30, 3) := by decide +kernel
theorem dL_relieves_92 : decode cL_relieves 92 = .ok (.aload_n 0, 1) := by decide +kernel
theorem dL_relieves_93 : decode cL_relieves 93 = .ok (.invokestatic 22, 3) := by decide +kernel
theorem dL_relieves_96 : decode cL_relieves 96 = .ok (.iload_n 3, 1) := by decide +kernel
theorem dL_relieves_97 : decode cL_relieves 97 = .ok (.iload 5, 2) := by decide +kernel
theorem dL_relieves_99 : decode cL_relieves 99 = .ok (.ior, 1) := by decide +kernel
theorem dL_relieves_100 : decode cL_relieves 100 = .ok (.if_icmp .ne 19, 3) := by decide +kernel
theorem dL_relieves_103 : decode cL_relieves 103 = .ok (.aload_n 0, 1) := by decide +kernel
theorem dL_relieves_104 : decode cL_relieves 104 = .ok (.invokevirtual 28, 3) := by decide +kernel
theorem dL_relieves_107 : decode cL_relieves 107 = .ok (.iload 4, 2) := by decide +kernel
theorem dL_relieves_109 : decode cL_relieves 109 = .ok (.iload 6, 2) := by decide +kernel
theorem dL_relieves_111 : decode cL_relieves 111 = .ok (.isub, 1) := by decide +kernel
theorem dL_relieves_112 : decode cL_relieves 112 = .ok (.if_icmp .ne 7, 3) := by decide +kernel
theorem dL_relieves_115 : decode cL_relieves 115 = .ok (.iconst 1, 1) := by decide +kernel
theorem dL_relieves_116 : decode cL_relieves 116 = .ok (.goto 4, 3) := by decide +kernel
theorem dL_relieves_119 : decode cL_relieves 119 = .ok (.iconst 0, 1) := by decide +kernel
theorem dL_relieves_120 : decode cL_relieves 120 = .ok (.ireturn, 1) := by decide +kernel
set_option maxRecDepth 20000 in
theorem ggL_turns_L_out : GoodIn wsL_turns wsL_out := goodIn_ca (goodIn_r _ [4, 5, 6, 7, 8, 9, 10, 11, 12, 13, 14, 15, 16, 17, 18, 19, 20, 21, 22, 23, 24, 25, 26, 27, 28, 29, 30, 31, 32, 33, 34, 35, 36, 37, 38, 39, 40, 41, 42, 43, 44, 163, 164, 165, 166, 167, 168, 169, 170, 171, 172, 173, 174, 175, 176] (by decide +kernel) (by decide +kernel)) (goodIn_sub (fun _ h => List.mem_cons_of_mem _ (List.mem_append_left _ (List.mem_append_left _ (List.mem_append_left _ (List.mem_append_right _ h))))) (by decide +kernel))
set_option maxRecDepth 20000 in
theorem gL_turns_L_out : GoodIn wsL_turns (va_wsS RL 22 yL_out wsL_out) := goodIn_app (goodIn_of _ (by decide +kernel)) ggL_turns_L_out
set_option maxRecDepth 20000 in
theorem ggL_turns_X2_feeders : GoodIn wsL_turns wsX2_feeders := goodIn_r _ [9, 10, 11, 12, 13, 14, 15, 16, 163, 164, 165, 166, 167, 168, 169] (by decide +kernel) (by decide +kernel)
set_option maxRecDepth 20000 in
theorem gL_turns_X2_feeders : GoodIn wsL_turns (wsV RL 8 RX2 yX2_feeders wsX2_feeders) := goodIn_app (goodIn_of _ (by decide +kernel)) ggL_turns_X2_feeders
set_option maxRecDepth 20000 in
theorem ggL_turns_X2_loadRestored : GoodIn wsL_turns wsX2_loadRestored := goodIn_r _ [48, 10, 27, 11, 12, 13, 14, 15, 16, 28, 29, 30, 31, 32, 33, 34, 35, 36, 37, 38, 39, 40, 41, 42, 43, 44, 49, 50, 51, 52, 53, 54, 55, 56, 57, 58, 59, 60, 61, 62, 63, 64, 65, 66, 67, 68, 69, 70, 71, 72, 163, 164, 165, 166, 167, 168, 169, 170, 171, 172, 173, 174, 175, 176] (by decide +kernel) (by decide +kernel)
set_option maxRecDepth 20000 in
theorem gL_turns_X2_loadRestored : GoodIn wsL_turns (wsV RL 41 RX2 yX2_loadRestored wsX2_loadRestored) := goodIn_app (goodIn_of _ (by decide +kernel)) ggL_turns_X2_loadRestored
set_option maxRecDepth 20000 in
theorem ggL_turns_X2_load : GoodIn wsL_turns wsX2_load := goodIn_r _ [76, 10, 27, 11, 12, 13, 14, 15, 16, 28, 29, 30, 31, 32, 33, 34, 35, 36, 37, 38, 39, 40, 41, 42, 43, 44, 69, 50, 70, 71, 53, 72, 63, 64, 65, 66, 67, 163, 164, 165, 166, 167, 168, 169, 170, 171, 172, 173, 174, 175, 176] (by decide +kernel) (by decide +kernel)
set_option maxRecDepth 20000 in
theorem gL_turns_X2_load : GoodIn wsL_turns (wsV RL 28 RX2 yX2_load wsX2_load) := goodIn_app (goodIn_of _ (by decide +kernel)) ggL_turns_X2_load
set_option maxRecDepth 20000 in
theorem ggL_turns_X2_choice : GoodIn wsL_turns wsX2_choice := goodIn_ca (goodIn_r _ [80, 81, 82, 8, 83, 84, 85, 86, 87, 88, 89, 90, 91, 92, 93, 94, 95, 10, 27, 96, 97, 98, 99, 100, 101, 102, 103, 11, 12, 13, 14, 15, 16, 28, 29, 30, 31, 32, 33, 34, 35, 36, 37, 38, 39, 40, 41, 42, 43, 44, 104, 50, 105, 106, 53, 107, 69, 70, 71, 72, 63, 64, 65, 66, 67, 108, 109, 110, 111, 112, 113, 114, 115, 116, 117, 118, 119, 120, 121, 122, 123, 124, 125, 126, 127, 128, 129, 130, 163, 164, 165, 166, 170, 171, 172, 173, 174, 175, 176, 177, 178, 179, 180, 181, 182, 183, 184, 185, 186, 167, 168, 169] (by decide +kernel) (by decide +kernel)) (goodIn_sub (fun _ h => List.mem_cons_of_mem _ (List.mem_append_left _ (List.mem_append_left _ (List.mem_append_right _ h)))) (by decide +kernel))
set_option maxRecDepth 20000 in
theorem gL_turns_X2_choice : GoodIn wsL_turns (wsV RL 31 RX2 yX2_choice wsX2_choice) := goodIn_app (goodIn_of _ (by decide +kernel)) ggL_turns_X2_choice
set_option maxRecDepth 20000 in
theorem ggL_turns_X2_hours : GoodIn wsL_turns wsX2_hours := goodIn_ca (goodIn_r _ [134, 21, 22, 23, 8, 24, 25, 26, 10, 27, 11, 12, 13, 14, 15, 16, 28, 29, 30, 31, 32, 33, 34, 35, 36, 37, 38, 39, 40, 41, 42, 43, 44, 170, 171, 172, 173, 174, 175, 176, 163, 164, 165, 166, 167, 168, 169] (by decide +kernel) (by decide +kernel)) (goodIn_sub (fun _ h => List.mem_cons_of_mem _ (List.mem_append_left _ (List.mem_append_left _ (List.mem_append_left _ (List.mem_append_right _ h))))) (by decide +kernel))
set_option maxRecDepth 20000 in
theorem gL_turns_X2_hours : GoodIn wsL_turns (wsV RL 44 RX2 yX2_hours wsX2_hours) := goodIn_app (goodIn_of _ (by decide +kernel)) ggL_turns_X2_hours
set_option maxRecDepth 20000 in
theorem ggL_turns_X2_rotate : GoodIn wsL_turns wsX2_rotate := goodIn_ca (goodIn_ca (goodIn_r _ [138, 139, 140, 141, 142, 143, 144, 145, 8, 146, 10, 27, 11, 12, 13, 14, 15, 16, 28, 29, 30, 31, 32, 33, 34, 35, 36, 37, 38, 39, 40, 41, 42, 43, 44, 147, 50, 148, 149, 53, 107, 49, 51, 52, 54, 55, 56, 57, 58, 59, 60, 61, 62, 63, 64, 65, 66, 67, 68, 69, 70, 71, 72, 86, 87, 88, 89, 90, 91, 92, 93, 94, 95, 96, 97, 98, 99, 100, 101, 102, 103, 104, 105, 106, 108, 109, 110, 111, 112, 113, 114, 115, 116, 117, 118, 119, 120, 121, 122, 123, 124, 125, 126, 127, 128, 129, 130, 150, 151, 152, 153, 154, 155, 156, 157, 158, 159, 160, 161, 162, 163, 164, 165, 166, 167, 168, 169, 170, 171, 172, 173, 174, 175, 176, 177, 178, 179, 180, 181, 182, 183, 184, 185, 186] (by decide +kernel) (by decide +kernel)) (goodIn_sub (fun _ h => List.mem_cons_of_mem _ (List.mem_append_left _ (List.mem_append_right _ h))) (by decide +kernel))) (goodIn_sub (fun _ h => List.mem_cons_of_mem _ (List.mem_append_right _ h)) (by decide +kernel))
set_option maxRecDepth 20000 in
theorem gL_turns_X2_rotate : GoodIn wsL_turns (wsV RL 47 RX2 yX2_rotate wsX2_rotate) := goodIn_app (goodIn_of _ (by decide +kernel)) ggL_turns_X2_rotate
theorem dL_turns_0 : decode cL_turns 0 = .ok (.aload_n 0, 1) := by decide +kernel
theorem dL_turns_1 : decode cL_turns 1 = .ok (.invokestatic 22, 3) := by decide +kernel
theorem dL_turns_4 : decode cL_turns 4 = .ok (.istore_n 2, 1) := by decide +kernel
theorem dL_turns_5 : decode cL_turns 5 = .ok (.iconst 1, 1) := by decide +kernel
theorem dL_turns_6 : decode cL_turns 6 = .ok (.aload_n 0, 1) := by decide +kernel
theorem dL_turns_7 : decode cL_turns 7 = .ok (.invokevirtual 8, 3) := by decide +kernel
theorem dL_turns_10 : decode cL_turns 10 = .ok (.ishl, 1) := by decide +kernel
theorem dL_turns_11 : decode cL_turns 11 = .ok (.iconst 1, 1) := by decide +kernel
theorem dL_turns_12 : decode cL_turns 12 = .ok (.isub, 1) := by decide +kernel
theorem dL_turns_13 : decode cL_turns 13 = .ok (.iload_n 2, 1) := by decide +kernel
theorem dL_turns_14 : decode cL_turns 14 = .ok (.iconst (-1), 1) := by decide +kernel
theorem dL_turns_15 : decode cL_turns 15 = .ok (.ixor, 1) := by decide +kernel
theorem dL_turns_16 : decode cL_turns 16 = .ok (.iand, 1) := by decide +kernel
theorem dL_turns_17 : decode cL_turns 17 = .ok (.istore_n 3, 1) := by decide +kernel
theorem dL_turns_18 : decode cL_turns 18 = .ok (.iload_n 2, 1) := by decide +kernel
theorem dL_turns_19 : decode cL_turns 19 = .ok (.iload_n 1, 1) := by decide +kernel
theorem dL_turns_20 : decode cL_turns 20 = .ok (.iconst (-1), 1) := by decide +kernel
theorem dL_turns_21 : decode cL_turns 21 = .ok (.ixor, 1) := by decide +kernel
theorem dL_turns_22 : decode cL_turns 22 = .ok (.iand, 1) := by decide +kernel
theorem dL_turns_23 : decode cL_turns 23 = .ok (.istore 4, 2) := by decide +kernel
theorem dL_turns_25 : decode cL_turns 25 = .ok (.aload_n 0, 1) := by decide +kernel
theorem dL_turns_26 : decode cL_turns 26 = .ok (.invokevirtual 41, 3) := by decide +kernel
theorem dL_turns_29 : decode cL_turns 29 = .ok (.aload_n 0, 1) := by decide +kernel
theorem dL_turns_30 : decode cL_turns 30 = .ok (.invokevirtual 28, 3) := by decide +kernel
theorem dL_turns_33 : decode cL_turns 33 = .ok (.isub, 1) := by decide +kernel
theorem dL_turns_34 : decode cL_turns 34 = .ok (.istore 5, 2) := by decide +kernel
theorem dL_turns_36 : decode cL_turns 36 = .ok (.iload 4, 2) := by decide +kernel
theorem dL_turns_38 : decode cL_turns 38 = .ok (.ifCond .eq 17, 3) := by decide +kernel
theorem dL_turns_41 : decode cL_turns 41 = .ok (.iload_n 2, 1) := by decide +kernel
theorem dL_turns_42 : decode cL_turns 42 = .ok (.iload_n 1, 1) := by decide +kernel
theorem dL_turns_43 : decode cL_turns 43 = .ok (.iand, 1) := by decide +kernel
theorem dL_turns_44 : decode cL_turns 44 = .ok (.ifCond .ne 11, 3) := by decide +kernel
theorem dL_turns_47 : decode cL_turns 47 = .ok (.iload 5, 2) := by decide +kernel
theorem dL_turns_49 : decode cL_turns 49 = .ok (.sipush 20000, 3) := by decide +kernel
theorem dL_turns_52 : decode cL_turns 52 = .ok (.if_icmp .le 5, 3) := by decide +kernel
theorem dL_turns_55 : decode cL_turns 55 = .ok (.iconst 1, 1) := by decide +kernel
theorem dL_turns_56 : decode cL_turns 56 = .ok (.ireturn, 1) := by decide +kernel
theorem dL_turns_57 : decode cL_turns 57 = .ok (.aload_n 0, 1) := by decide +kernel
theorem dL_turns_58 : decode cL_turns 58 = .ok (.iload 5, 2) := by decide +kernel
theorem dL_turns_60 : decode cL_turns 60 = .ok (.invokevirtual 31, 3) := by decide +kernel
theorem dL_turns_63 : decode cL_turns 63 = .ok (.istore 6, 2) := by decide +kernel
theorem dL_turns_65 : decode cL_turns 65 = .ok (.iload 6, 2) := by decide +kernel
theorem dL_turns_67 : decode cL_turns 67 = .ok (.ifCond .ne 5, 3) := by decide +kernel
theorem dL_turns_70 : decode cL_turns 70 = .ok (.iconst 1, 1) := by decide +kernel
theorem dL_turns_71 : decode cL_turns 71 = .ok (.ireturn, 1) := by decide +kernel
theorem dL_turns_72 : decode cL_turns 72 = .ok (.iconst 0, 1) := by decide +kernel
theorem dL_turns_73 : decode cL_turns 73 = .ok (.istore 7, 2) := by decide +kernel
theorem dL_turns_75 : decode cL_turns 75 = .ok (.iconst 0, 1) := by decide +kernel
theorem dL_turns_76 : decode cL_turns 76 = .ok (.istore 8, 2) := by decide +kernel
theorem dL_turns_78 : decode cL_turns 78 = .ok (.iload 8, 2) := by decide +kernel
theorem dL_turns_80 : decode cL_turns 80 = .ok (.aload_n 0, 1) := by decide +kernel
theorem dL_turns_81 : decode cL_turns 81 = .ok (.invokevirtual 8, 3) := by decide +kernel
theorem dL_turns_84 : decode cL_turns 84 = .ok (.if_icmp .ge 20, 3) := by decide +kernel
theorem dL_turns_87 : decode cL_turns 87 = .ok (.iload 7, 2) := by decide +kernel
theorem dL_turns_89 : decode cL_turns 89 = .ok (.aload_n 0, 1) := by decide +kernel
theorem dL_turns_90 : decode cL_turns 90 = .ok (.iload 8, 2) := by decide +kernel
theorem dL_turns_92 : decode cL_turns 92 = .ok (.invokevirtual 44, 3) := by decide +kernel
theorem dL_turns_95 : decode cL_turns 95 = .ok (.iadd, 1) := by decide +kernel
theorem dL_turns_96 : decode cL_turns 96 = .ok (.istore 7, 2) := by decide +kernel
theorem dL_turns_98 : decode cL_turns 98 = .ok (.iinc 8 1, 3) := by decide +kernel
theorem dL_turns_101 : decode cL_turns 101 = .ok (.goto (-23), 3) := by decide +kernel
theorem dL_turns_104 : decode cL_turns 104 = .ok (.aload_n 0, 1) := by decide +kernel
theorem dL_turns_105 : decode cL_turns 105 = .ok (.invokevirtual 28, 3) := by decide +kernel
theorem dL_turns_108 : decode cL_turns 108 = .ok (.istore 8, 2) := by decide +kernel
theorem dL_turns_110 : decode cL_turns 110 = .ok (.aload_n 0, 1) := by decide +kernel
theorem dL_turns_111 : decode cL_turns 111 = .ok (.invokevirtual 47, 3) := by decide +kernel
theorem dL_turns_114 : decode cL_turns 114 = .ok (.istore 9, 2) := by decide +kernel
theorem dL_turns_116 : decode cL_turns 116 = .ok (.iconst 0, 1) := by decide +kernel
theorem dL_turns_117 : decode cL_turns 117 = .ok (.istore 10, 2) := by decide +kernel
theorem dL_turns_119 : decode cL_turns 119 = .ok (.iconst 0, 1) := by decide +kernel
theorem dL_turns_120 : decode cL_turns 120 = .ok (.istore 11, 2) := by decide +kernel
theorem dL_turns_122 : decode cL_turns 122 = .ok (.iload 11, 2) := by decide +kernel
theorem dL_turns_124 : decode cL_turns 124 = .ok (.aload_n 0, 1) := by decide +kernel
theorem dL_turns_125 : decode cL_turns 125 = .ok (.invokevirtual 8, 3) := by decide +kernel
theorem dL_turns_128 : decode cL_turns 128 = .ok (.if_icmp .ge 32, 3) := by decide +kernel
theorem dL_turns_131 : decode cL_turns 131 = .ok (.iload 10, 2) := by decide +kernel
theorem dL_turns_133 : decode cL_turns 133 = .ok (.iload 4, 2) := by decide +kernel
theorem dL_turns_135 : decode cL_turns 135 = .ok (.iload 11, 2) := by decide +kernel
theorem dL_turns_137 : decode cL_turns 137 = .ok (.ishr, 1) := by decide +kernel
theorem dL_turns_138 : decode cL_turns 138 = .ok (.iconst 1, 1) := by decide +kernel
theorem dL_turns_139 : decode cL_turns 139 = .ok (.iand, 1) := by decide +kernel
theorem dL_turns_140 : decode cL_turns 140 = .ok (.iadd, 1) := by decide +kernel
theorem dL_turns_141 : decode cL_turns 141 = .ok (.istore 10, 2) := by decide +kernel
theorem dL_turns_143 : decode cL_turns 143 = .ok (.iload 7, 2) := by decide +kernel
theorem dL_turns_145 : decode cL_turns 145 = .ok (.aload_n 0, 1) := by decide +kernel
theorem dL_turns_146 : decode cL_turns 146 = .ok (.iload 11, 2) := by decide +kernel
theorem dL_turns_148 : decode cL_turns 148 = .ok (.invokevirtual 44, 3) := by decide +kernel
theorem dL_turns_151 : decode cL_turns 151 = .ok (.isub, 1) := by decide +kernel
theorem dL_turns_152 : decode cL_turns 152 = .ok (.istore 7, 2) := by decide +kernel
theorem dL_turns_154 : decode cL_turns 154 = .ok (.iinc 11 1, 3) := by decide +kernel
theorem dL_turns_157 : decode cL_turns 157 = .ok (.goto (-35), 3) := by decide +kernel
theorem dL_turns_160 : decode cL_turns 160 = .ok (.iload 9, 2) := by decide +kernel
theorem dL_turns_162 : decode cL_turns 162 = .ok (.iload 10, 2) := by decide +kernel
theorem dL_turns_164 : decode cL_turns 164 = .ok (.if_icmp .ne 39, 3) := by decide +kernel
theorem dL_turns_167 : decode cL_turns 167 = .ok (.aload_n 0, 1) := by decide +kernel
theorem dL_turns_168 : decode cL_turns 168 = .ok (.invokestatic 22, 3) := by decide +kernel
theorem dL_turns_171 : decode cL_turns 171 = .ok (.iload 6, 2) := by decide +kernel
theorem dL_turns_173 : decode cL_turns 173 = .ok (.if_icmp .ne 30, 3) := by decide +kernel
theorem dL_turns_176 : decode cL_turns 176 = .ok (.iload 6, 2) := by decide +kernel
theorem dL_turns_178 : decode cL_turns 178 = .ok (.iload_n 3, 1) := by decide +kernel
theorem dL_turns_179 : decode cL_turns 179 = .ok (.iand, 1) := by decide +kernel
theorem dL_turns_180 : decode cL_turns 180 = .ok (.iload 6, 2) := by decide +kernel
theorem dL_turns_182 : decode cL_turns 182 = .ok (.if_icmp .ne 21, 3) := by decide +kernel
theorem dL_turns_185 : decode cL_turns 185 = .ok (.iload 7, 2) := by decide +kernel
theorem dL_turns_187 : decode cL_turns 187 = .ok (.ifCond .ne 16, 3) := by decide +kernel
theorem dL_turns_190 : decode cL_turns 190 = .ok (.aload_n 0, 1) := by decide +kernel
theorem dL_turns_191 : decode cL_turns 191 = .ok (.invokevirtual 28, 3) := by decide +kernel
theorem dL_turns_194 : decode cL_turns 194 = .ok (.iload 8, 2) := by decide +kernel
theorem dL_turns_196 : decode cL_turns 196 = .ok (.if_icmp .gt 7, 3) := by decide +kernel
theorem dL_turns_199 : decode cL_turns 199 = .ok (.iconst 1, 1) := by decide +kernel
theorem dL_turns_200 : decode cL_turns 200 = .ok (.goto 4, 3) := by decide +kernel
theorem dL_turns_203 : decode cL_turns 203 = .ok (.iconst 0, 1) := by decide +kernel
theorem dL_turns_204 : decode cL_turns 204 = .ok (.ireturn, 1) := by decide +kernel
set_option maxRecDepth 20000 in
theorem ggL_passes_L_out : GoodIn wsL_passes wsL_out := goodIn_ca (goodIn_r _ [4, 5, 6, 7, 8, 9, 10, 11, 12, 13, 14, 15, 16, 17, 18, 19, 20, 21, 22, 23, 24, 25, 26, 27, 28, 29, 30, 31, 32, 33, 34, 35, 36, 37, 38, 39, 40, 41, 42, 43, 44, 113, 114, 115, 116, 117, 118, 119, 120, 121, 122, 123, 124, 125, 126] (by decide +kernel) (by decide +kernel)) (goodIn_sub (fun _ h => List.mem_cons_of_mem _ (List.mem_append_left _ (List.mem_append_right _ h))) (by decide +kernel))
set_option maxRecDepth 20000 in
theorem gL_passes_L_out : GoodIn wsL_passes (va_wsS RL 22 yL_out wsL_out) := goodIn_app (goodIn_of _ (by decide +kernel)) ggL_passes_L_out
set_option maxRecDepth 20000 in
theorem ggL_passes_X2_load : GoodIn wsL_passes wsX2_load := goodIn_r _ [48, 10, 27, 11, 12, 13, 14, 15, 16, 28, 29, 30, 31, 32, 33, 34, 35, 36, 37, 38, 39, 40, 41, 42, 43, 44, 49, 50, 51, 52, 53, 54, 55, 56, 57, 58, 59, 113, 114, 115, 116, 117, 118, 119, 120, 121, 122, 123, 124, 125, 126] (by decide +kernel) (by decide +kernel)
set_option maxRecDepth 20000 in
theorem gL_passes_X2_load : GoodIn wsL_passes (wsV RL 28 RX2 yX2_load wsX2_load) := goodIn_app (goodIn_of _ (by decide +kernel)) ggL_passes_X2_load
set_option maxRecDepth 20000 in
theorem ggL_passes_X2_feeders : GoodIn wsL_passes wsX2_feeders := goodIn_r _ [9, 10, 11, 12, 13, 14, 15, 16, 113, 114, 115, 116, 117, 118, 119] (by decide +kernel) (by decide +kernel)
set_option maxRecDepth 20000 in
theorem gL_passes_X2_feeders : GoodIn wsL_passes (wsV RL 8 RX2 yX2_feeders wsX2_feeders) := goodIn_app (goodIn_of _ (by decide +kernel)) ggL_passes_X2_feeders
set_option maxRecDepth 20000 in
theorem ggL_passes_X2_hours : GoodIn wsL_passes wsX2_hours := goodIn_ca (goodIn_r _ [63, 21, 22, 23, 8, 24, 25, 26, 10, 27, 11, 12, 13, 14, 15, 16, 28, 29, 30, 31, 32, 33, 34, 35, 36, 37, 38, 39, 40, 41, 42, 43, 44, 120, 121, 122, 123, 124, 125, 126, 113, 114, 115, 116, 117, 118, 119] (by decide +kernel) (by decide +kernel)) (goodIn_sub (fun _ h => List.mem_cons_of_mem _ (List.mem_append_left _ (List.mem_append_right _ h))) (by decide +kernel))
set_option maxRecDepth 20000 in
theorem gL_passes_X2_hours : GoodIn wsL_passes (wsV RL 44 RX2 yX2_hours wsX2_hours) := goodIn_app (goodIn_of _ (by decide +kernel)) ggL_passes_X2_hours
set_option maxRecDepth 20000 in
theorem ggL_passes_X2_hour : GoodIn wsL_passes wsX2_hour := goodIn_r _ [67, 68, 113, 114, 115, 116] (by decide +kernel) (by decide +kernel)
set_option maxRecDepth 20000 in
theorem gL_passes_X2_hour : GoodIn wsL_passes (wsV RL 50 RX2 yX2_hour wsX2_hour) := goodIn_app (goodIn_of _ (by decide +kernel)) ggL_passes_X2_hour
set_option maxRecDepth 20000 in
theorem ggL_passes_X2_pass : GoodIn wsL_passes wsX2_pass := goodIn_ca (goodIn_r _ [72, 68, 10, 27, 73, 74, 8, 75, 76, 77, 11, 12, 13, 14, 15, 16, 28, 29, 30, 31, 32, 33, 34, 35, 36, 37, 38, 39, 40, 41, 42, 43, 44, 78, 50, 79, 80, 53, 81, 82, 54, 83, 84, 85, 86, 113, 114, 115, 116, 117, 118, 119, 120, 121, 122, 123, 124, 125, 126] (by decide +kernel) (by decide +kernel)) (goodIn_sub (fun _ h => List.mem_cons_of_mem _ (List.mem_append_right _ h)) (by decide +kernel))
set_option maxRecDepth 20000 in
theorem gL_passes_X2_pass : GoodIn wsL_passes (wsV RL 53 RX2 yX2_pass wsX2_pass) := goodIn_app (goodIn_of _ (by decide +kernel)) ggL_passes_X2_pass
set_option maxRecDepth 20000 in
theorem ggL_passes_X2_cold : GoodIn wsL_passes wsX2_cold := goodIn_ca (goodIn_r _ [90, 21, 22, 23, 8, 24, 25, 26, 10, 27, 11, 12, 13, 14, 15, 16, 28, 29, 30, 31, 32, 33, 34, 35, 36, 37, 38, 39, 40, 41, 42, 43, 44, 120, 121, 122, 123, 124, 125, 126, 113, 114, 115, 116, 117, 118, 119] (by decide +kernel) (by decide +kernel)) (goodIn_sub (fun _ h => List.mem_cons_of_mem _ (List.mem_append_left _ (List.mem_append_right _ h))) (by decide +kernel))
set_option maxRecDepth 20000 in
theorem gL_passes_X2_cold : GoodIn wsL_passes (wsV RL 56 RX2 yX2_cold wsX2_cold) := goodIn_app (goodIn_of _ (by decide +kernel)) ggL_passes_X2_cold
set_option maxRecDepth 20000 in
theorem ggL_passes_X2_isCut : GoodIn wsL_passes wsX2_isCut := goodIn_ca (goodIn_r _ [20, 21, 22, 23, 8, 24, 25, 26, 10, 27, 11, 12, 13, 14, 15, 16, 28, 29, 30, 31, 32, 33, 34, 35, 36, 37, 38, 39, 40, 41, 42, 43, 44, 120, 121, 122, 123, 124, 125, 126, 113, 114, 115, 116, 117, 118, 119] (by decide +kernel) (by decide +kernel)) (goodIn_sub (fun _ h => List.mem_cons_of_mem _ (List.mem_append_left _ (List.mem_append_right _ h))) (by decide +kernel))
set_option maxRecDepth 20000 in
theorem gL_passes_X2_isCut : GoodIn wsL_passes (wsV RL 14 RX2 yX2_isCut wsX2_isCut) := goodIn_app (goodIn_of _ (by decide +kernel)) ggL_passes_X2_isCut
set_option maxRecDepth 20000 in
theorem ggL_passes_X2_takes : GoodIn wsL_passes wsX2_takes := goodIn_ca (goodIn_r _ [94, 21, 22, 23, 8, 24, 25, 26, 10, 27, 11, 12, 13, 14, 15, 16, 28, 29, 30, 31, 32, 33, 34, 35, 36, 37, 38, 39, 40, 41, 42, 43, 44, 49, 50, 51, 52, 53, 54, 55, 56, 57, 58, 59, 113, 114, 115, 116, 117, 118, 119, 120, 121, 122, 123, 124, 125, 126] (by decide +kernel) (by decide +kernel)) (goodIn_sub (fun _ h => List.mem_cons_of_mem _ (List.mem_append_left _ (List.mem_append_right _ h))) (by decide +kernel))
set_option maxRecDepth 20000 in
theorem gL_passes_X2_takes : GoodIn wsL_passes (wsV RL 18 RX2 yX2_takes wsX2_takes) := goodIn_app (goodIn_of _ (by decide +kernel)) ggL_passes_X2_takes
set_option maxRecDepth 20000 in
theorem ggL_passes_X2_loadRestored : GoodIn wsL_passes wsX2_loadRestored := goodIn_r _ [98, 10, 27, 11, 12, 13, 14, 15, 16, 28, 29, 30, 31, 32, 33, 34, 35, 36, 37, 38, 39, 40, 41, 42, 43, 44, 99, 50, 100, 101, 53, 102, 103, 104, 105, 82, 106, 107, 85, 108, 55, 56, 57, 58, 59, 109, 49, 51, 52, 54, 113, 114, 115, 116, 117, 118, 119, 120, 121, 122, 123, 124, 125, 126] (by decide +kernel) (by decide +kernel)
set_option maxRecDepth 20000 in
theorem gL_passes_X2_loadRestored : GoodIn wsL_passes (wsV RL 41 RX2 yX2_loadRestored wsX2_loadRestored) := goodIn_app (goodIn_of _ (by decide +kernel)) ggL_passes_X2_loadRestored
set_option maxRecDepth 20000 in
theorem ggL_passes_L_noneCold : GoodIn wsL_passes wsL_noneCold := goodIn_ca (goodIn_r _ [112, 5, 6, 7, 8, 9, 10, 11, 12, 13, 14, 15, 16, 87, 88, 89, 90, 21, 22, 23, 24, 25, 26, 27, 28, 29, 30, 31, 32, 33, 34, 35, 36, 37, 38, 39, 40, 41, 42, 43, 44, 113, 114, 115, 116, 117, 118, 119, 120, 121, 122, 123, 124, 125, 126] (by decide +kernel) (by decide +kernel)) (goodIn_sub (fun _ h => List.mem_cons_of_mem _ (List.mem_append_left _ (List.mem_append_right _ h))) (by decide +kernel))
set_option maxRecDepth 20000 in
theorem gL_passes_L_noneCold : GoodIn wsL_passes (va_wsS RL 59 yL_noneCold wsL_noneCold) := goodIn_app (goodIn_of _ (by decide +kernel)) ggL_passes_L_noneCold
theorem dL_passes_0 : decode cL_passes 0 = .ok (.aload_n 0, 1) := by decide +kernel
theorem dL_passes_1 : decode cL_passes 1 = .ok (.invokestatic 22, 3) := by decide +kernel
theorem dL_passes_4 : decode cL_passes 4 = .ok (.istore_n 2, 1) := by decide +kernel
theorem dL_passes_5 : decode cL_passes 5 = .ok (.iconst 0, 1) := by decide +kernel
theorem dL_passes_6 : decode cL_passes 6 = .ok (.istore_n 3, 1) := by decide +kernel
theorem dL_passes_7 : decode cL_passes 7 = .ok (.aload_n 0, 1) := by decide +kernel
theorem dL_passes_8 : decode cL_passes 8 = .ok (.invokevirtual 28, 3) := by decide +kernel
theorem dL_passes_11 : decode cL_passes 11 = .ok (.istore 4, 2) := by decide +kernel
theorem dL_passes_13 : decode cL_passes 13 = .ok (.iconst 0, 1) := by decide +kernel
theorem dL_passes_14 : decode cL_passes 14 = .ok (.istore 5, 2) := by decide +kernel
theorem dL_passes_16 : decode cL_passes 16 = .ok (.iconst 0, 1) := by decide +kernel
theorem dL_passes_17 : decode cL_passes 17 = .ok (.istore 6, 2) := by decide +kernel
theorem dL_passes_19 : decode cL_passes 19 = .ok (.iload 6, 2) := by decide +kernel
theorem dL_passes_21 : decode cL_passes 21 = .ok (.aload_n 0, 1) := by decide +kernel
theorem dL_passes_22 : decode cL_passes 22 = .ok (.invokevirtual 8, 3) := by decide +kernel
theorem dL_passes_25 : decode cL_passes 25 = .ok (.if_icmp .ge 34, 3) := by decide +kernel
theorem dL_passes_28 : decode cL_passes 28 = .ok (.iload_n 3, 1) := by decide +kernel
theorem dL_passes_29 : decode cL_passes 29 = .ok (.aload_n 0, 1) := by decide +kernel
theorem dL_passes_30 : decode cL_passes 30 = .ok (.iload 6, 2) := by decide +kernel
theorem dL_passes_32 : decode cL_passes 32 = .ok (.invokevirtual 44, 3) := by decide +kernel
theorem dL_passes_35 : decode cL_passes 35 = .ok (.iload_n 2, 1) := by decide +kernel
theorem dL_passes_36 : decode cL_passes 36 = .ok (.iload 6, 2) := by decide +kernel
theorem dL_passes_38 : decode cL_passes 38 = .ok (.ishr, 1) := by decide +kernel
theorem dL_passes_39 : decode cL_passes 39 = .ok (.iconst 1, 1) := by decide +kernel
theorem dL_passes_40 : decode cL_passes 40 = .ok (.iand, 1) := by decide +kernel
theorem dL_passes_41 : decode cL_passes 41 = .ok (.iconst 1, 1) := by decide +kernel
theorem dL_passes_42 : decode cL_passes 42 = .ok (.if_icmp .ne 7, 3) := by decide +kernel
theorem dL_passes_45 : decode cL_passes 45 = .ok (.iload_n 1, 1) := by decide +kernel
theorem dL_passes_46 : decode cL_passes 46 = .ok (.goto 4, 3) := by decide +kernel
theorem dL_passes_49 : decode cL_passes 49 = .ok (.iconst 0, 1) := by decide +kernel
theorem dL_passes_50 : decode cL_passes 50 = .ok (.iadd, 1) := by decide +kernel
theorem dL_passes_51 : decode cL_passes 51 = .ok (.iadd, 1) := by decide +kernel
theorem dL_passes_52 : decode cL_passes 52 = .ok (.istore_n 3, 1) := by decide +kernel
theorem dL_passes_53 : decode cL_passes 53 = .ok (.iinc 6 1, 3) := by decide +kernel
theorem dL_passes_56 : decode cL_passes 56 = .ok (.goto (-37), 3) := by decide +kernel
theorem dL_passes_59 : decode cL_passes 59 = .ok (.aload_n 0, 1) := by decide +kernel
theorem dL_passes_60 : decode cL_passes 60 = .ok (.invokevirtual 50, 3) := by decide +kernel
theorem dL_passes_63 : decode cL_passes 63 = .ok (.istore 6, 2) := by decide +kernel
theorem dL_passes_65 : decode cL_passes 65 = .ok (.aload_n 0, 1) := by decide +kernel
theorem dL_passes_66 : decode cL_passes 66 = .ok (.iload_n 1, 1) := by decide +kernel
theorem dL_passes_67 : decode cL_passes 67 = .ok (.invokevirtual 53, 3) := by decide +kernel
theorem dL_passes_70 : decode cL_passes 70 = .ok (.iload 6, 2) := by decide +kernel
theorem dL_passes_72 : decode cL_passes 72 = .ok (.iload_n 1, 1) := by decide +kernel
theorem dL_passes_73 : decode cL_passes 73 = .ok (.iadd, 1) := by decide +kernel
theorem dL_passes_74 : decode cL_passes 74 = .ok (.if_icmp .ne 20, 3) := by decide +kernel
theorem dL_passes_77 : decode cL_passes 77 = .ok (.aload_n 0, 1) := by decide +kernel
theorem dL_passes_78 : decode cL_passes 78 = .ok (.invokestatic 22, 3) := by decide +kernel
theorem dL_passes_81 : decode cL_passes 81 = .ok (.iload_n 2, 1) := by decide +kernel
theorem dL_passes_82 : decode cL_passes 82 = .ok (.if_icmp .ne 12, 3) := by decide +kernel
theorem dL_passes_85 : decode cL_passes 85 = .ok (.aload_n 0, 1) := by decide +kernel
theorem dL_passes_86 : decode cL_passes 86 = .ok (.invokevirtual 28, 3) := by decide +kernel
theorem dL_passes_89 : decode cL_passes 89 = .ok (.iload 4, 2) := by decide +kernel
theorem dL_passes_91 : decode cL_passes 91 = .ok (.if_icmp .le 5, 3) := by decide +kernel
theorem dL_passes_94 : decode cL_passes 94 = .ok (.iconst 0, 1) := by decide +kernel
theorem dL_passes_95 : decode cL_passes 95 = .ok (.ireturn, 1) := by decide +kernel
theorem dL_passes_96 : decode cL_passes 96 = .ok (.iconst 0, 1) := by decide +kernel
theorem dL_passes_97 : decode cL_passes 97 = .ok (.istore 7, 2) := by decide +kernel
theorem dL_passes_99 : decode cL_passes 99 = .ok (.iload 7, 2) := by decide +kernel
theorem dL_passes_101 : decode cL_passes 101 = .ok (.aload_n 0, 1) := by decide +kernel
theorem dL_passes_102 : decode cL_passes 102 = .ok (.invokevirtual 8, 3) := by decide +kernel
theorem dL_passes_105 : decode cL_passes 105 = .ok (.if_icmp .ge 78, 3) := by decide +kernel
theorem dL_passes_108 : decode cL_passes 108 = .ok (.iload_n 3, 1) := by decide +kernel
theorem dL_passes_109 : decode cL_passes 109 = .ok (.aload_n 0, 1) := by decide +kernel
theorem dL_passes_110 : decode cL_passes 110 = .ok (.iload 7, 2) := by decide +kernel
theorem dL_passes_112 : decode cL_passes 112 = .ok (.invokevirtual 44, 3) := by decide +kernel
theorem dL_passes_115 : decode cL_passes 115 = .ok (.isub, 1) := by decide +kernel
theorem dL_passes_116 : decode cL_passes 116 = .ok (.istore_n 3, 1) := by decide +kernel
theorem dL_passes_117 : decode cL_passes 117 = .ok (.aload_n 0, 1) := by decide +kernel
theorem dL_passes_118 : decode cL_passes 118 = .ok (.iload 7, 2) := by decide +kernel
theorem dL_passes_120 : decode cL_passes 120 = .ok (.invokevirtual 56, 3) := by decide +kernel
theorem dL_passes_123 : decode cL_passes 123 = .ok (.ifCond .lt 41, 3) := by decide +kernel
theorem dL_passes_126 : decode cL_passes 126 = .ok (.aload_n 0, 1) := by decide +kernel
theorem dL_passes_127 : decode cL_passes 127 = .ok (.iload 7, 2) := by decide +kernel
theorem dL_passes_129 : decode cL_passes 129 = .ok (.invokevirtual 56, 3) := by decide +kernel
theorem dL_passes_132 : decode cL_passes 132 = .ok (.bipush 100, 2) := by decide +kernel
theorem dL_passes_134 : decode cL_passes 134 = .ok (.if_icmp .gt 30, 3) := by decide +kernel
theorem dL_passes_137 : decode cL_passes 137 = .ok (.aload_n 0, 1) := by decide +kernel
theorem dL_passes_138 : decode cL_passes 138 = .ok (.iload 7, 2) := by decide +kernel
theorem dL_passes_140 : decode cL_passes 140 = .ok (.invokevirtual 14, 3) := by decide +kernel
theorem dL_passes_143 : decode cL_passes 143 = .ok (.ifCond .eq 23, 3) := by decide +kernel
theorem dL_passes_146 : decode cL_passes 146 = .ok (.aload_n 0, 1) := by decide +kernel
theorem dL_passes_147 : decode cL_passes 147 = .ok (.iload 7, 2) := by decide +kernel
theorem dL_passes_149 : decode cL_passes 149 = .ok (.invokevirtual 18, 3) := by decide +kernel
theorem dL_passes_152 : decode cL_passes 152 = .ok (.ifCond .ne 12, 3) := by decide +kernel
theorem dL_passes_155 : decode cL_passes 155 = .ok (.aload_n 0, 1) := by decide +kernel
theorem dL_passes_156 : decode cL_passes 156 = .ok (.iload 7, 2) := by decide +kernel
theorem dL_passes_158 : decode cL_passes 158 = .ok (.invokevirtual 56, 3) := by decide +kernel
theorem dL_passes_161 : decode cL_passes 161 = .ok (.ifCond .eq 5, 3) := by decide +kernel
theorem dL_passes_164 : decode cL_passes 164 = .ok (.iconst 0, 1) := by decide +kernel
theorem dL_passes_165 : decode cL_passes 165 = .ok (.ireturn, 1) := by decide +kernel
theorem dL_passes_166 : decode cL_passes 166 = .ok (.iload 5, 2) := by decide +kernel
theorem dL_passes_168 : decode cL_passes 168 = .ok (.aload_n 0, 1) := by decide +kernel
theorem dL_passes_169 : decode cL_passes 169 = .ok (.iload 7, 2) := by decide +kernel
theorem dL_passes_171 : decode cL_passes 171 = .ok (.invokevirtual 18, 3) := by decide +kernel
theorem dL_passes_174 : decode cL_passes 174 = .ok (.iadd, 1) := by decide +kernel
theorem dL_passes_175 : decode cL_passes 175 = .ok (.istore 5, 2) := by decide +kernel
theorem dL_passes_177 : decode cL_passes 177 = .ok (.iinc 7 1, 3) := by decide +kernel
theorem dL_passes_180 : decode cL_passes 180 = .ok (.goto (-81), 3) := by decide +kernel
theorem dL_passes_183 : decode cL_passes 183 = .ok (.iload_n 3, 1) := by decide +kernel
theorem dL_passes_184 : decode cL_passes 184 = .ok (.ifCond .ne 37, 3) := by decide +kernel
theorem dL_passes_187 : decode cL_passes 187 = .ok (.iload 5, 2) := by decide +kernel
theorem dL_passes_189 : decode cL_passes 189 = .ok (.aload_n 0, 1) := by decide +kernel
theorem dL_passes_190 : decode cL_passes 190 = .ok (.invokevirtual 28, 3) := by decide +kernel
theorem dL_passes_193 : decode cL_passes 193 = .ok (.if_icmp .ne 28, 3) := by decide +kernel
theorem dL_passes_196 : decode cL_passes 196 = .ok (.aload_n 0, 1) := by decide +kernel
theorem dL_passes_197 : decode cL_passes 197 = .ok (.invokevirtual 41, 3) := by decide +kernel
theorem dL_passes_200 : decode cL_passes 200 = .ok (.iload 5, 2) := by decide +kernel
theorem dL_passes_202 : decode cL_passes 202 = .ok (.if_icmp .lt 19, 3) := by decide +kernel
theorem dL_passes_205 : decode cL_passes 205 = .ok (.iload_n 1, 1) := by decide +kernel
theorem dL_passes_206 : decode cL_passes 206 = .ok (.iconst 5, 1) := by decide +kernel
theorem dL_passes_207 : decode cL_passes 207 = .ok (.if_icmp .lt 10, 3) := by decide +kernel
theorem dL_passes_210 : decode cL_passes 210 = .ok (.aload_n 0, 1) := by decide +kernel
theorem dL_passes_211 : decode cL_passes 211 = .ok (.invokestatic 59, 3) := by decide +kernel
theorem dL_passes_214 : decode cL_passes 214 = .ok (.ifCond .eq 7, 3) := by decide +kernel
theorem dL_passes_217 : decode cL_passes 217 = .ok (.iconst 1, 1) := by decide +kernel
theorem dL_passes_218 : decode cL_passes 218 = .ok (.goto 4, 3) := by decide +kernel
theorem dL_passes_221 : decode cL_passes 221 = .ok (.iconst 0, 1) := by decide +kernel
theorem dL_passes_222 : decode cL_passes 222 = .ok (.ireturn, 1) := by decide +kernel
set_option maxRecDepth 20000 in
theorem ggL_noneCold_X2_feeders : GoodIn wsL_noneCold wsX2_feeders := goodIn_r _ [5, 6, 7, 8, 9, 10, 11, 12, 41, 42, 43, 44, 45, 46, 47] (by decide +kernel) (by decide +kernel)
set_option maxRecDepth 20000 in
theorem gL_noneCold_X2_feeders : GoodIn wsL_noneCold (wsV RL 8 RX2 yX2_feeders wsX2_feeders) := goodIn_app (goodIn_of _ (by decide +kernel)) ggL_noneCold_X2_feeders
set_option maxRecDepth 20000 in
theorem ggL_noneCold_X2_cold : GoodIn wsL_noneCold wsX2_cold := goodIn_ca (goodIn_r _ [16, 17, 18, 19, 4, 20, 21, 22, 6, 23, 7, 8, 9, 10, 11, 12, 24, 25, 26, 27, 28, 29, 30, 31, 32, 33, 34, 35, 36, 37, 38, 39, 40, 48, 49, 50, 51, 52, 53, 54, 41, 42, 43, 44, 45, 46, 47] (by decide +kernel) (by decide +kernel)) (goodIn_sub (fun _ h => List.mem_cons_of_mem _ (List.mem_append_right _ h)) (by decide +kernel))
set_option maxRecDepth 20000 in
theorem gL_noneCold_X2_cold : GoodIn wsL_noneCold (wsV RL 56 RX2 yX2_cold wsX2_cold) := goodIn_app (goodIn_of _ (by decide +kernel)) ggL_noneCold_X2_cold
theorem dL_noneCold_0 : decode cL_noneCold 0 = .ok (.iconst 0, 1) := by decide +kernel
theorem dL_noneCold_1 : decode cL_noneCold 1 = .ok (.istore_n 1, 1) := by decide +kernel
theorem dL_noneCold_2 : decode cL_noneCold 2 = .ok (.iload_n 1, 1) := by decide +kernel
theorem dL_noneCold_3 : decode cL_noneCold 3 = .ok (.aload_n 0, 1) := by decide +kernel
theorem dL_noneCold_4 : decode cL_noneCold 4 = .ok (.invokevirtual 8, 3) := by decide +kernel
theorem dL_noneCold_7 : decode cL_noneCold 7 = .ok (.if_icmp .ge 19, 3) := by decide +kernel
theorem dL_noneCold_10 : decode cL_noneCold 10 = .ok (.aload_n 0, 1) := by decide +kernel
theorem dL_noneCold_11 : decode cL_noneCold 11 = .ok (.iload_n 1, 1) := by decide +kernel
theorem dL_noneCold_12 : decode cL_noneCold 12 = .ok (.invokevirtual 56, 3) := by decide +kernel
theorem dL_noneCold_15 : decode cL_noneCold 15 = .ok (.ifCond .eq 5, 3) := by decide +kernel
theorem dL_noneCold_18 : decode cL_noneCold 18 = .ok (.iconst 0, 1) := by decide +kernel
theorem dL_noneCold_19 : decode cL_noneCold 19 = .ok (.ireturn, 1) := by decide +kernel
theorem dL_noneCold_20 : decode cL_noneCold 20 = .ok (.iinc 1 1, 3) := by decide +kernel
theorem dL_noneCold_23 : decode cL_noneCold 23 = .ok (.goto (-21), 3) := by decide +kernel
theorem dL_noneCold_26 : decode cL_noneCold 26 = .ok (.iconst 1, 1) := by decide +kernel
theorem dL_noneCold_27 : decode cL_noneCold 27 = .ok (.ireturn, 1) := by decide +kernel
end
section
-- the nest mates' links, the texts, the casts that the walk uses (they aren't among a method's words)
def zNestM : List (String × Nat × MethodName × String) := [
  (RX2, 18, yX1_init, RX2), (RX2, 47, yX0_init, RX2), (RX2, 69, yX0_letPass, RX2), (RX2, 86, yX0_switchOff, RX2), (RX2, 97, yX0_mayBeCut, RX2),
  (RX2, 109, yX0_switchOn, RX2), (RX2, 112, yX0_taken, RX2), (RX2, 143, yX0_takenIfRestored, RX2), (RX2, 156, yX0_mayReturn, RX2),
  (RX2, 159, yX1_bestByWalking, RX2), (RX2, 162, yX1_begin, RX2), (RX2, 166, yX1_offer, RX2)]
def zNestF : List (String × Nat × String × String × String × String) := [(RX2, 104, "Shedwheel$Feeder", "off", "Z", RX2), (RX2, 117, "Shedwheel$Feeder", "coldPart", "I", RX2), (RX2, 120, "Shedwheel$Feeder", "hoursOff", "I", RX2)]
def zStrs : List (Nat × String) := [(40, "there are 12 feeders"), (79, "all feeders that are on and not critical take less"), (92, "no feeder is cut that is not critical"), (107, "the feeder is not cut"), (148, "out of range"), (153, "no such feeder")]
def zCasts : List (String × String) := [("java/lang/IllegalArgumentException", "java/lang/IllegalArgumentException"), ("java/lang/IllegalStateException", "java/lang/IllegalStateException"), ("java/lang/IndexOutOfBoundsException", "java/lang/IndexOutOfBoundsException"), ("java/util/NoSuchElementException", "java/util/NoSuchElementException"), (RX0, RX0), (RX0, "java/lang/Object")]
def zDecls : List MethodName := [Bundle.initS "java/lang/RuntimeException", Bundle.initS "java/lang/Exception", Bundle.initS Bundle.tN]
def zNcs : List (String × String) := []
-- what is fixed through a run: the classes, the array classes of int, Object, int once more, ArrayList's empty array
abbrev zGt : Type := va_G × ClassId × ClassId × ClassId × Nat × Nat
def zT (G : zGt) : List (ClassId × FieldType) := [(G.2.1, .int), (G.2.2.1, .object "java/lang/Object"), (G.2.2.2.1, .int)]
def zS (G : zGt) (A : Nat → Prop) (U : State) (H : Heap) : Prop :=
  (vx_Zq Bundle.tN "UNASSIGNED_STACK" Bundle.steD A U H ∧ vx_Zq Bundle.tN "SUPPRESSED_SENTINEL" Bundle.listD A U H ∧
  va_Z "java/util/ArrayList" "DEFAULTCAPACITY_EMPTY_ELEMENTDATA" "[Ljava/lang/Object;" (.ref G.2.2.2.2.1) A U H ∧ va_T (.object "java/lang/Object") G.2.2.2.2.1 0 (fun _ => .null) A U H) ∧
  ((∀ q ∈ zStrs, ∃ a, vk_R RX2 q.1 q.2 a U) ∧ (∀ q ∈ zNestM, va_Nw (.methodLinkNest q.1 q.2.1 q.2.2.1 q.2.2.2) U) ∧ (∀ q ∈ zNestF, va_Nw (.fieldLinkNest q.1 q.2.1 q.2.2.1 q.2.2.2.1 q.2.2.2.2.1 q.2.2.2.2.2) U) ∧
  (∀ q ∈ zCasts, va_Nw (.castable q.1 q.2) U) ∧ (∀ q ∈ zNcs, va_Nc q.1 q.2 U) ∧ va_AO "java/lang/Object" U ∧ va_Mi "[Ljava/lang/Object;" G.2.2.2.2.2 U ∧ (va_Dc U ∧ ∀ q ∈ zDecls, va_Nw (.declares q) U))
theorem zS.warm {G : zGt} {A : Nat → Prop} {s U : State} {H : Heap} (h : zS G A s H) (hW : s.WarmedH U.vm) : zS G A U H := by
  obtain ⟨⟨h1, h2, h3, h4⟩, h5, h6, h7, h8, h8b, h9, h10, h11, h12⟩ := h
  have hv := hW.alike
  exact ⟨⟨h1.moved hv, h2.moved hv, h3.moved hv, h4.moved hv⟩, fun q hq => (by obtain ⟨a, ha⟩ := h5 q hq; exact ⟨a, ha.warm hW⟩), fun q hq => (h6 q hq).warmM hW, fun q hq => (h7 q hq).warmF hW, fun q hq => (h8 q hq).warmC hW, fun q hq => (h8b q hq).moved hv, h9.moved hv, h10.moved hv, h11.moved hv, fun q hq => (h12 q hq).warmD hW⟩
theorem zS.kept {G : zGt} {A : Nat → Prop} {U : State} {H H1 : Heap} (h : zS G A U H) (hq : ∀ a : Nat, a < H.size → ¬ A a → H1[a]? = H[a]?) : zS G A U H1 := by
  obtain ⟨⟨h1, h2, h3, h4⟩, h5⟩ := h
  exact ⟨⟨h1.kept hq, h2.kept hq, h3.kept hq, h4.kept hq⟩, h5⟩
theorem zS.narrow {G : zGt} {A B : Nat → Prop} {U : State} {H : Heap} (h : zS G A U H) (hAB : ∀ q, B q → A q) : zS G B U H := by
  obtain ⟨⟨h1, h2, h3, h4⟩, h5⟩ := h
  exact ⟨⟨h1.narrow hAB, h2.narrow hAB, h3.narrow hAB, h4.narrow hAB⟩, h5⟩
def zA (L : List Nat) (sz : Nat) : Nat → Prop := fun q => q ∈ L ∨ sz ≤ q
def zR (G : zGt) (L : List Nat) (F : Nat → va_E) (A : Nat → Prop) (t : State) : Prop := va_P G.1 vwCl (va_pl L F) t.heap ∧ va_D A (va_pl L F)
def zPre (G : zGt) (L : List Nat) (F : Nat → va_E) (sz : Nat) (U : State) : Prop := U.heap.size = sz ∧ zR G L F (fun _ => True) U ∧ va_K G.1 vwCl (zT G) U ∧ zS G (zA L sz) U U.heap
abbrev zPt : Type := Option Value → List Nat → (Nat → va_E) → Prop
abbrev zPx : Type := String → List Nat → (Nat → va_E) → Prop
def zQ (G : zGt) (post : zPt) (A : Nat → Prop) : Array Value → State → Outcome → State → Prop := fun _ st oc t => (∃ (rv : Option Value) (L : List Nat) (F : Nat → va_E), oc = .returned rv ∧ post rv L F ∧ zR G L F A t) ∧ va_F A st t
def zE (G : zGt) (px : zPx) (A : Nat → Prop) : String → State → State → Prop := fun E st t => (∃ (L : List Nat) (F : Nat → va_E), px E L F ∧ zR G L F A t) ∧ va_F A st t
def zM (l : Launch) (y : MethodName) (ws : List Cond) (fr lo mc ms : Nat) (G : zGt) (L : List Nat) (F : Nat → va_E) (as : List Value) (post : zPt) : Prop :=
  ∀ sz : Nat, Met l y ws { frames := fr, cells := mc, slots := ms, locals := lo } (va_Pc as (zPre G L F sz)) (zQ G post (zA L sz)) mc ms (zA L sz)
def zX (l : Launch) (y : MethodName) (ws : List Cond) (fr lo mc ms : Nat) (G : zGt) (L : List Nat) (F : Nat → va_E) (as : List Value) (post : zPt) (px : zPx) : Prop :=
  ∀ sz : Nat, vx_Met l y ws { frames := fr, cells := mc, slots := ms, locals := lo } (va_Pc as (zPre G L F sz)) (zQ G post (zA L sz)) (zE G px (zA L sz)) mc ms (zA L sz)
theorem zD_pl {A B : Nat → Prop} {L : List Nat} {F : Nat → va_E} (h : va_D A (va_pl L F)) (hB : ∀ q ∈ L, B q) : va_D B (va_pl L F) := by
  refine ⟨h.1, fun k q hk => ?_⟩
  have := List.mem_of_getElem? hk
  obtain ⟨a, ha, rfl⟩ := List.mem_map.mp this
  exact hB a ha
theorem zD_in {A : Nat → Prop} {L : List Nat} {F : Nat → va_E} (h : va_D A (va_pl L F)) : ∀ q ∈ L, A q := by
  intro q hq
  obtain ⟨k, hk⟩ := va_pl_get (X := []) (f := F) hq
  exact h.2 k (q, F q) hk
theorem zL_lt {D : va_G} {L : List Nat} {F : Nat → va_E} {H : Heap} (h : va_P D vwCl (va_pl L F) H) : ∀ q ∈ L, q < H.size := fun q hq => va_pl_lt (X := []) h hq
theorem zAt {L : List Nat} {F : Nat → va_E} {a : Nat} {e : va_E} (hL : a ∈ L) (hF : F a = e) : ∃ k : Nat, (va_pl L F)[k]? = some (a, e) := by
  obtain ⟨k, hk⟩ := va_pl_get (X := []) (f := F) hL
  exact ⟨k, by rw [← hF]; exact hk⟩
theorem zSt {A : Nat → Prop} {L : List Nat} {F : Nat → va_E} {a k : Nat} {e e0 : va_E} (hD : va_D A (va_pl L F)) (hL : a ∈ L) (hF : F a = e0) (hk : (va_pl L F)[k]? = some (a, e0)) : (va_pl L F).set k (a, e) = va_pl L (va_up F a e) :=
  va_pl_set (X := []) hD hL (by rw [hF]; exact hk)
theorem zPre_blind {G : zGt} {L : List Nat} {F : Nat → va_E} {sz : Nat} {as : List Value} : FrameBlind (va_Pc as (zPre G L F sz)) := by
  intro a U g mk q
  obtain ⟨q0, q1, q2, q3, q4⟩ := q
  exact ⟨q0, q1, q2, va_K.moved (u := U) (U := U.calling g mk a) (Vm.Alike.refl U.vm) q3, zS.warm (s := U) (U := U.calling g mk a) q4 (State.WarmedH.refl U)⟩
def zC (p : Program) (l : Launch) (s : State) (m : MethodId) (args : Array Value) (meth : Method) (c : Code) (cc : ByteArray) (nL : Nat) (Ts : List Cond) (own : String) (ret : Option FieldType) (G : zGt) (A : Nat → Prop) : Prop :=
  CallFix p m c cc nL s args Ts own ∧ meth.sig.returnType = ret ∧ meth.locks = false ∧ va_K G.1 vwCl (zT G) s ∧ zS G A s s.heap ∧ (∀ q, s.heap.size ≤ q → A q) ∧ l.stackTraces = false
def zW (p : Program) (l : Launch) (e : Env) (R : Room) (s : State) (m : MethodId) (args : Array Value) (below : List Frame) (meth : Method) (c : Code) (nL : Nat) (G : zGt) (A : Nat → Prop) (Q : State → Prop) (ce sl : Nat) (L : List Nat) (F : Nat → va_E) (pc : Nat) (lv : List (Nat × Value)) (st : List Value) : Prop :=
  ∀ (H : Heap) (locs : List Loc) (ls : Array Slot), va_P G.1 vwCl (va_pl L F) H → va_D A (va_pl L F) → va_S A s.heap H locs → lv_has ls nL lv → W p l e R s m args below meth c H locs ce sl Q (F0 m pc ls st)
def zV (p : Program) (l : Launch) (e : Env) (R : Room) (s : State) (m : MethodId) (args : Array Value) (below : List Frame) (meth : Method) (c : Code) (nL : Nat) (G : zGt) (A : Nat → Prop) (Q : State → Prop) (E : String) (ce sl : Nat) (L : List Nat) (F : Nat → va_E) (pc : Nat) (lv : List (Nat × Value)) (st : List Value) : Prop :=
  ∀ (H : Heap) (locs : List Loc) (ls : Array Slot) (q : Addr) (cell : Cell), va_P G.1 vwCl (va_pl L F) H → va_D A (va_pl L F) → va_S A s.heap H locs → lv_has ls nL lv → H[q]? = some cell → cell.vm = .none → s.vm.findClass E = some cell.cls → vx_W p l e R s m args below meth c H locs ce sl Q (F0 m pc ls st) q

section ZA
variable {p : Program} {l : Launch} {e : Env} {R : Room} {s : State} {m : MethodId} {args : Array Value} {below : List Frame} {meth : Method} {c : Code} {cc : ByteArray} {nL : Nat} {Ts : List Cond} {own : String} {ret : Option FieldType} {G : zGt} {A : Nat → Prop} {Q : State → Prop} {ce sl : Nat} {L : List Nat} {F : Nat → va_E} {pc : Nat} {lv : List (Nat × Value)} {st : List Value}
theorem z_iload_n (C : zC p l s m args meth c cc nL Ts own ret G A) {k : Fin 4} {i : Nat} {x : Int32} (d : decode cc pc = .ok (.iload_n k, 1)) (hi : (k : Nat) = i) (j : Nat) (h : lv[j]? = some (i, .int x)) (kk : zW p l e R s m args below meth c nL G A Q ce sl L F (pc + 1) lv (.int x :: st)) : zW p l e R s m args below meth c nL G A Q ce sl L F pc lv st := fun H locs ls hP hD hS hl => lv_iload_n C.1.1 C.1.2.1 d hi (lv_at hl j h) (kk H locs ls hP hD hS hl)
theorem z_iload (C : zC p l s m args meth c cc nL Ts own ret G A) {i : Nat} {x : Int32} (d : decode cc pc = .ok (.iload i, 2)) (j : Nat) (h : lv[j]? = some (i, .int x)) (kk : zW p l e R s m args below meth c nL G A Q ce sl L F (pc + 2) lv (.int x :: st)) : zW p l e R s m args below meth c nL G A Q ce sl L F pc lv st := fun H locs ls hP hD hS hl => lv_iload C.1.1 C.1.2.1 d (lv_at hl j h) (kk H locs ls hP hD hS hl)
theorem z_aload_n (C : zC p l s m args meth c cc nL Ts own ret G A) {k : Fin 4} {i : Nat} {x : Nat} (d : decode cc pc = .ok (.aload_n k, 1)) (hi : (k : Nat) = i) (j : Nat) (h : lv[j]? = some (i, .ref x)) (kk : zW p l e R s m args below meth c nL G A Q ce sl L F (pc + 1) lv (.ref x :: st)) : zW p l e R s m args below meth c nL G A Q ce sl L F pc lv st := fun H locs ls hP hD hS hl => lv_aload_n C.1.1 C.1.2.1 d hi (lv_at hl j h) (kk H locs ls hP hD hS hl)
theorem z_aload (C : zC p l s m args meth c cc nL Ts own ret G A) {i : Nat} {x : Nat} (d : decode cc pc = .ok (.aload i, 2)) (j : Nat) (h : lv[j]? = some (i, .ref x)) (kk : zW p l e R s m args below meth c nL G A Q ce sl L F (pc + 2) lv (.ref x :: st)) : zW p l e R s m args below meth c nL G A Q ce sl L F pc lv st := fun H locs ls hP hD hS hl => lv_aload C.1.1 C.1.2.1 d (lv_at hl j h) (kk H locs ls hP hD hS hl)
theorem z_lload (C : zC p l s m args meth c cc nL Ts own ret G A) {i : Nat} {x : Int64} (d : decode cc pc = .ok (.lload i, 2)) (j : Nat) (h : lv[j]? = some (i, .long x)) (kk : zW p l e R s m args below meth c nL G A Q ce sl L F (pc + 2) lv (.long x :: st)) : zW p l e R s m args below meth c nL G A Q ce sl L F pc lv st := fun H locs ls hP hD hS hl => lv_lload C.1.1 C.1.2.1 d (lv_at hl j h) (kk H locs ls hP hD hS hl)
theorem z_istore_n (C : zC p l s m args meth c cc nL Ts own ret G A) {k : Fin 4} {i : Nat} {x : Int32} {lv' : List (Nat × Value)} (d : decode cc pc = .ok (.istore_n k, 1)) (hi : (k : Nat) = i) (hn : i < nL) (h : (i, Value.int x) :: lv.filter (fun q => !(q.1 == i) && !(q.1 + 1 == i && q.2.category == 2)) = lv') (kk : zW p l e R s m args below meth c nL G A Q ce sl L F (pc + 1) (lv') st) : zW p l e R s m args below meth c nL G A Q ce sl L F pc lv (.int x :: st) := fun H locs ls hP hD hS hl => lv_istore_n C.1.1 C.1.2.1 d hi hl hn h (fun ls hl => kk H locs ls hP hD hS hl)
theorem z_istore (C : zC p l s m args meth c cc nL Ts own ret G A) {i : Nat} {x : Int32} {lv' : List (Nat × Value)} (d : decode cc pc = .ok (.istore i, 2)) (hn : i < nL) (h : (i, Value.int x) :: lv.filter (fun q => !(q.1 == i) && !(q.1 + 1 == i && q.2.category == 2)) = lv') (kk : zW p l e R s m args below meth c nL G A Q ce sl L F (pc + 2) (lv') st) : zW p l e R s m args below meth c nL G A Q ce sl L F pc lv (.int x :: st) := fun H locs ls hP hD hS hl => lv_istore C.1.1 C.1.2.1 d hl hn h (fun ls hl => kk H locs ls hP hD hS hl)
theorem z_astore_n (C : zC p l s m args meth c cc nL Ts own ret G A) {k : Fin 4} {i : Nat} {x : Nat} {lv' : List (Nat × Value)} (d : decode cc pc = .ok (.astore_n k, 1)) (hi : (k : Nat) = i) (hn : i < nL) (h : (i, Value.ref x) :: lv.filter (fun q => !(q.1 == i) && !(q.1 + 1 == i && q.2.category == 2)) = lv') (kk : zW p l e R s m args below meth c nL G A Q ce sl L F (pc + 1) (lv') st) : zW p l e R s m args below meth c nL G A Q ce sl L F pc lv (.ref x :: st) := fun H locs ls hP hD hS hl => lv_astore_n C.1.1 C.1.2.1 d hi hl hn h (fun ls hl => kk H locs ls hP hD hS hl)
theorem z_astore (C : zC p l s m args meth c cc nL Ts own ret G A) {i : Nat} {x : Nat} {lv' : List (Nat × Value)} (d : decode cc pc = .ok (.astore i, 2)) (hn : i < nL) (h : (i, Value.ref x) :: lv.filter (fun q => !(q.1 == i) && !(q.1 + 1 == i && q.2.category == 2)) = lv') (kk : zW p l e R s m args below meth c nL G A Q ce sl L F (pc + 2) (lv') st) : zW p l e R s m args below meth c nL G A Q ce sl L F pc lv (.ref x :: st) := fun H locs ls hP hD hS hl => lv_astore C.1.1 C.1.2.1 d hl hn h (fun ls hl => kk H locs ls hP hD hS hl)
theorem z_iinc (C : zC p l s m args meth c cc nL Ts own ret G A) {i : Nat} {n : Int} {x v : Int32} {lv' : List (Nat × Value)} (d : decode cc pc = .ok (.iinc i n, 3)) (j : Nat) (hj : lv[j]? = some (i, .int x)) (hv : x + Int32.ofInt n = v) (hn : i < nL) (h : (i, Value.int v) :: lv.filter (fun q => !(q.1 == i) && !(q.1 + 1 == i && q.2.category == 2)) = lv') (kk : zW p l e R s m args below meth c nL G A Q ce sl L F (pc + 3) (lv') st) : zW p l e R s m args below meth c nL G A Q ce sl L F pc lv st := fun H locs ls hP hD hS hl => lv_iinc C.1.1 C.1.2.1 d hl (k := j) hj hv hn h (fun ls hl => kk H locs ls hP hD hS hl)
theorem z_iconst (C : zC p l s m args meth c cc nL Ts own ret G A) {n : Int} (v : Int32) (d : decode cc pc = .ok (.iconst n, 1)) (hv : Int32.ofInt n = v) (kk : zW p l e R s m args below meth c nL G A Q ce sl L F (pc + 1) lv (.int v :: st)) : zW p l e R s m args below meth c nL G A Q ce sl L F pc lv st := fun H locs ls hP hD hS hl => lv_iconst C.1.1 C.1.2.1 d hv (kk H locs ls hP hD hS hl)
theorem z_bipush (C : zC p l s m args meth c cc nL Ts own ret G A) {n : Int} (v : Int32) (d : decode cc pc = .ok (.bipush n, 2)) (hv : (Int8.ofInt n).toInt32 = v) (kk : zW p l e R s m args below meth c nL G A Q ce sl L F (pc + 2) lv (.int v :: st)) : zW p l e R s m args below meth c nL G A Q ce sl L F pc lv st := fun H locs ls hP hD hS hl => lv_bipush C.1.1 C.1.2.1 d hv (kk H locs ls hP hD hS hl)
theorem z_sipush (C : zC p l s m args meth c cc nL Ts own ret G A) {n : Int} (v : Int32) (d : decode cc pc = .ok (.sipush n, 3)) (hv : (Int16.ofInt n).toInt32 = v) (kk : zW p l e R s m args below meth c nL G A Q ce sl L F (pc + 3) lv (.int v :: st)) : zW p l e R s m args below meth c nL G A Q ce sl L F pc lv st := fun H locs ls hP hD hS hl => lv_sipush C.1.1 C.1.2.1 d hv (kk H locs ls hP hD hS hl)
theorem z_lconst (C : zC p l s m args meth c cc nL Ts own ret G A) {n : Fin 2} (v : Int64) (d : decode cc pc = .ok (.lconst n, 1)) (hv : Int64.ofNat (n : Nat) = v) (kk : zW p l e R s m args below meth c nL G A Q ce sl L F (pc + 1) lv (.long v :: st)) : zW p l e R s m args below meth c nL G A Q ce sl L F pc lv st := fun H locs ls hP hD hS hl => lv_lconst C.1.1 C.1.2.1 d hv (kk H locs ls hP hD hS hl)
theorem z_i2l (C : zC p l s m args meth c cc nL Ts own ret G A) {x : Int32} (v : Int64) (d : decode cc pc = .ok (.i2l, 1)) (hv : x.toInt64 = v) (kk : zW p l e R s m args below meth c nL G A Q ce sl L F (pc + 1) lv (.long v :: st)) : zW p l e R s m args below meth c nL G A Q ce sl L F pc lv (.int x :: st) := fun H locs ls hP hD hS hl => lv_i2l C.1.1 C.1.2.1 d hv (kk H locs ls hP hD hS hl)
theorem z_iadd (C : zC p l s m args meth c cc nL Ts own ret G A) {x y : Int32} (v : Int32) (d : decode cc pc = .ok (.iadd, 1)) (hv : x + y = v) (kk : zW p l e R s m args below meth c nL G A Q ce sl L F (pc + 1) lv (.int v :: st)) : zW p l e R s m args below meth c nL G A Q ce sl L F pc lv (.int y :: .int x :: st) := fun H locs ls hP hD hS hl => lv_iadd C.1.1 C.1.2.1 d (by rw [hv]; exact kk H locs ls hP hD hS hl)
theorem z_isub (C : zC p l s m args meth c cc nL Ts own ret G A) {x y : Int32} (v : Int32) (d : decode cc pc = .ok (.isub, 1)) (hv : x - y = v) (kk : zW p l e R s m args below meth c nL G A Q ce sl L F (pc + 1) lv (.int v :: st)) : zW p l e R s m args below meth c nL G A Q ce sl L F pc lv (.int y :: .int x :: st) := fun H locs ls hP hD hS hl => lv_isub C.1.1 C.1.2.1 d (by rw [hv]; exact kk H locs ls hP hD hS hl)
theorem z_imul (C : zC p l s m args meth c cc nL Ts own ret G A) {x y : Int32} (v : Int32) (d : decode cc pc = .ok (.imul, 1)) (hv : x * y = v) (kk : zW p l e R s m args below meth c nL G A Q ce sl L F (pc + 1) lv (.int v :: st)) : zW p l e R s m args below meth c nL G A Q ce sl L F pc lv (.int y :: .int x :: st) := fun H locs ls hP hD hS hl => lv_imul C.1.1 C.1.2.1 d (by rw [hv]; exact kk H locs ls hP hD hS hl)
theorem z_iand (C : zC p l s m args meth c cc nL Ts own ret G A) {x y : Int32} (v : Int32) (d : decode cc pc = .ok (.iand, 1)) (hv : x &&& y = v) (kk : zW p l e R s m args below meth c nL G A Q ce sl L F (pc + 1) lv (.int v :: st)) : zW p l e R s m args below meth c nL G A Q ce sl L F pc lv (.int y :: .int x :: st) := fun H locs ls hP hD hS hl => lv_iand C.1.1 C.1.2.1 d (by rw [hv]; exact kk H locs ls hP hD hS hl)
theorem z_ior (C : zC p l s m args meth c cc nL Ts own ret G A) {x y : Int32} (v : Int32) (d : decode cc pc = .ok (.ior, 1)) (hv : x ||| y = v) (kk : zW p l e R s m args below meth c nL G A Q ce sl L F (pc + 1) lv (.int v :: st)) : zW p l e R s m args below meth c nL G A Q ce sl L F pc lv (.int y :: .int x :: st) := fun H locs ls hP hD hS hl => lv_ior C.1.1 C.1.2.1 d (by rw [hv]; exact kk H locs ls hP hD hS hl)
theorem z_ishl (C : zC p l s m args meth c cc nL Ts own ret G A) {x y : Int32} (v : Int32) (d : decode cc pc = .ok (.ishl, 1)) (hv : x <<< (y &&& 31) = v) (kk : zW p l e R s m args below meth c nL G A Q ce sl L F (pc + 1) lv (.int v :: st)) : zW p l e R s m args below meth c nL G A Q ce sl L F pc lv (.int y :: .int x :: st) := fun H locs ls hP hD hS hl => lv_ishl C.1.1 C.1.2.1 d (by rw [hv]; exact kk H locs ls hP hD hS hl)
theorem z_ishr (C : zC p l s m args meth c cc nL Ts own ret G A) {x y : Int32} (v : Int32) (d : decode cc pc = .ok (.ishr, 1)) (hv : x >>> (y &&& 31) = v) (kk : zW p l e R s m args below meth c nL G A Q ce sl L F (pc + 1) lv (.int v :: st)) : zW p l e R s m args below meth c nL G A Q ce sl L F pc lv (.int y :: .int x :: st) := fun H locs ls hP hD hS hl => lv_ishr C.1.1 C.1.2.1 d (by rw [hv]; exact kk H locs ls hP hD hS hl)
theorem z_idiv (C : zC p l s m args meth c cc nL Ts own ret G A) {x y : Int32} (v : Int32) (d : decode cc pc = .ok (.idiv, 1)) (h0 : ¬ y = 0) (hv : x / y = v) (kk : zW p l e R s m args below meth c nL G A Q ce sl L F (pc + 1) lv (.int v :: st)) : zW p l e R s m args below meth c nL G A Q ce sl L F pc lv (.int y :: .int x :: st) := fun H locs ls hP hD hS hl => lv_idiv C.1.1 C.1.2.1 d h0 (by rw [hv]; exact kk H locs ls hP hD hS hl)
theorem z_lcmp (C : zC p l s m args meth c cc nL Ts own ret G A) {x y : Int64} (v : Int32) (d : decode cc pc = .ok (.lcmp, 1)) (hv : lg_cmp x y = v) (kk : zW p l e R s m args below meth c nL G A Q ce sl L F (pc + 1) lv (.int v :: st)) : zW p l e R s m args below meth c nL G A Q ce sl L F pc lv (.long y :: .long x :: st) := fun H locs ls hP hD hS hl => W.lcmp C.1.1 C.1.2.1 d (by rw [hv]; exact kk H locs ls hP hD hS hl)
theorem z_icmp_lt (C : zC p l s m args meth c cc nL Ts own ret G A) {x y : Int32} {off : Int} (tgt : Nat) (P : Prop) (hp : x < y ↔ P) (d : decode cc pc = .ok (.if_icmp .lt off, 3)) (ht : (pc : Int) + off = (tgt : Int)) (kt : P → zW p l e R s m args below meth c nL G A Q ce sl L F tgt lv st) (kf : ¬ P → zW p l e R s m args below meth c nL G A Q ce sl L F (pc + 3) lv st) : zW p l e R s m args below meth c nL G A Q ce sl L F pc lv (.int y :: .int x :: st) := fun H locs ls hP hD hS hl => lv_icmp_lt C.1.1 C.1.2.1 d ht (fun h => kt (hp.mp h) H locs ls hP hD hS hl) (fun h => kf (fun h9 => h (hp.mpr h9)) H locs ls hP hD hS hl)
theorem z_if_lt (C : zC p l s m args meth c cc nL Ts own ret G A) {x : Int32} {off : Int} (tgt : Nat) (P : Prop) (hp : x < 0 ↔ P) (d : decode cc pc = .ok (.ifCond .lt off, 3)) (ht : (pc : Int) + off = (tgt : Int)) (kt : P → zW p l e R s m args below meth c nL G A Q ce sl L F tgt lv st) (kf : ¬ P → zW p l e R s m args below meth c nL G A Q ce sl L F (pc + 3) lv st) : zW p l e R s m args below meth c nL G A Q ce sl L F pc lv (.int x :: st) := fun H locs ls hP hD hS hl => lv_if_lt C.1.1 C.1.2.1 d ht (fun h => kt (hp.mp h) H locs ls hP hD hS hl) (fun h => kf (fun h9 => h (hp.mpr h9)) H locs ls hP hD hS hl)
theorem z_icmp_ge (C : zC p l s m args meth c cc nL Ts own ret G A) {x y : Int32} {off : Int} (tgt : Nat) (P : Prop) (hp : y ≤ x ↔ P) (d : decode cc pc = .ok (.if_icmp .ge off, 3)) (ht : (pc : Int) + off = (tgt : Int)) (kt : P → zW p l e R s m args below meth c nL G A Q ce sl L F tgt lv st) (kf : ¬ P → zW p l e R s m args below meth c nL G A Q ce sl L F (pc + 3) lv st) : zW p l e R s m args below meth c nL G A Q ce sl L F pc lv (.int y :: .int x :: st) := fun H locs ls hP hD hS hl => lv_icmp_ge C.1.1 C.1.2.1 d ht (fun h => kt (hp.mp h) H locs ls hP hD hS hl) (fun h => kf (fun h9 => h (hp.mpr h9)) H locs ls hP hD hS hl)
theorem z_if_ge (C : zC p l s m args meth c cc nL Ts own ret G A) {x : Int32} {off : Int} (tgt : Nat) (P : Prop) (hp : 0 ≤ x ↔ P) (d : decode cc pc = .ok (.ifCond .ge off, 3)) (ht : (pc : Int) + off = (tgt : Int)) (kt : P → zW p l e R s m args below meth c nL G A Q ce sl L F tgt lv st) (kf : ¬ P → zW p l e R s m args below meth c nL G A Q ce sl L F (pc + 3) lv st) : zW p l e R s m args below meth c nL G A Q ce sl L F pc lv (.int x :: st) := fun H locs ls hP hD hS hl => lv_if_ge C.1.1 C.1.2.1 d ht (fun h => kt (hp.mp h) H locs ls hP hD hS hl) (fun h => kf (fun h9 => h (hp.mpr h9)) H locs ls hP hD hS hl)
theorem z_icmp_gt (C : zC p l s m args meth c cc nL Ts own ret G A) {x y : Int32} {off : Int} (tgt : Nat) (P : Prop) (hp : y < x ↔ P) (d : decode cc pc = .ok (.if_icmp .gt off, 3)) (ht : (pc : Int) + off = (tgt : Int)) (kt : P → zW p l e R s m args below meth c nL G A Q ce sl L F tgt lv st) (kf : ¬ P → zW p l e R s m args below meth c nL G A Q ce sl L F (pc + 3) lv st) : zW p l e R s m args below meth c nL G A Q ce sl L F pc lv (.int y :: .int x :: st) := fun H locs ls hP hD hS hl => lv_icmp_gt C.1.1 C.1.2.1 d ht (fun h => kt (hp.mp h) H locs ls hP hD hS hl) (fun h => kf (fun h9 => h (hp.mpr h9)) H locs ls hP hD hS hl)
theorem z_if_gt (C : zC p l s m args meth c cc nL Ts own ret G A) {x : Int32} {off : Int} (tgt : Nat) (P : Prop) (hp : 0 < x ↔ P) (d : decode cc pc = .ok (.ifCond .gt off, 3)) (ht : (pc : Int) + off = (tgt : Int)) (kt : P → zW p l e R s m args below meth c nL G A Q ce sl L F tgt lv st) (kf : ¬ P → zW p l e R s m args below meth c nL G A Q ce sl L F (pc + 3) lv st) : zW p l e R s m args below meth c nL G A Q ce sl L F pc lv (.int x :: st) := fun H locs ls hP hD hS hl => lv_if_gt C.1.1 C.1.2.1 d ht (fun h => kt (hp.mp h) H locs ls hP hD hS hl) (fun h => kf (fun h9 => h (hp.mpr h9)) H locs ls hP hD hS hl)
theorem z_icmp_le (C : zC p l s m args meth c cc nL Ts own ret G A) {x y : Int32} {off : Int} (tgt : Nat) (P : Prop) (hp : x ≤ y ↔ P) (d : decode cc pc = .ok (.if_icmp .le off, 3)) (ht : (pc : Int) + off = (tgt : Int)) (kt : P → zW p l e R s m args below meth c nL G A Q ce sl L F tgt lv st) (kf : ¬ P → zW p l e R s m args below meth c nL G A Q ce sl L F (pc + 3) lv st) : zW p l e R s m args below meth c nL G A Q ce sl L F pc lv (.int y :: .int x :: st) := fun H locs ls hP hD hS hl => lv_icmp_le C.1.1 C.1.2.1 d ht (fun h => kt (hp.mp h) H locs ls hP hD hS hl) (fun h => kf (fun h9 => h (hp.mpr h9)) H locs ls hP hD hS hl)
theorem z_if_le (C : zC p l s m args meth c cc nL Ts own ret G A) {x : Int32} {off : Int} (tgt : Nat) (P : Prop) (hp : x ≤ 0 ↔ P) (d : decode cc pc = .ok (.ifCond .le off, 3)) (ht : (pc : Int) + off = (tgt : Int)) (kt : P → zW p l e R s m args below meth c nL G A Q ce sl L F tgt lv st) (kf : ¬ P → zW p l e R s m args below meth c nL G A Q ce sl L F (pc + 3) lv st) : zW p l e R s m args below meth c nL G A Q ce sl L F pc lv (.int x :: st) := fun H locs ls hP hD hS hl => lv_if_le C.1.1 C.1.2.1 d ht (fun h => kt (hp.mp h) H locs ls hP hD hS hl) (fun h => kf (fun h9 => h (hp.mpr h9)) H locs ls hP hD hS hl)
theorem z_icmp_eq (C : zC p l s m args meth c cc nL Ts own ret G A) {x y : Int32} {off : Int} (tgt : Nat) (P : Prop) (hp : x = y ↔ P) (d : decode cc pc = .ok (.if_icmp .eq off, 3)) (ht : (pc : Int) + off = (tgt : Int)) (kt : P → zW p l e R s m args below meth c nL G A Q ce sl L F tgt lv st) (kf : ¬ P → zW p l e R s m args below meth c nL G A Q ce sl L F (pc + 3) lv st) : zW p l e R s m args below meth c nL G A Q ce sl L F pc lv (.int y :: .int x :: st) := fun H locs ls hP hD hS hl => lv_icmp_eq C.1.1 C.1.2.1 d ht (fun h => kt (hp.mp h) H locs ls hP hD hS hl) (fun h => kf (fun h9 => h (hp.mpr h9)) H locs ls hP hD hS hl)
theorem z_if_eq (C : zC p l s m args meth c cc nL Ts own ret G A) {x : Int32} {off : Int} (tgt : Nat) (P : Prop) (hp : x = 0 ↔ P) (d : decode cc pc = .ok (.ifCond .eq off, 3)) (ht : (pc : Int) + off = (tgt : Int)) (kt : P → zW p l e R s m args below meth c nL G A Q ce sl L F tgt lv st) (kf : ¬ P → zW p l e R s m args below meth c nL G A Q ce sl L F (pc + 3) lv st) : zW p l e R s m args below meth c nL G A Q ce sl L F pc lv (.int x :: st) := fun H locs ls hP hD hS hl => lv_if_eq C.1.1 C.1.2.1 d ht (fun h => kt (hp.mp h) H locs ls hP hD hS hl) (fun h => kf (fun h9 => h (hp.mpr h9)) H locs ls hP hD hS hl)
theorem z_icmp_ne (C : zC p l s m args meth c cc nL Ts own ret G A) {x y : Int32} {off : Int} (tgt : Nat) (P : Prop) (hp : x = y ↔ P) (d : decode cc pc = .ok (.if_icmp .ne off, 3)) (ht : (pc : Int) + off = (tgt : Int)) (kt : ¬ P → zW p l e R s m args below meth c nL G A Q ce sl L F tgt lv st) (kf : P → zW p l e R s m args below meth c nL G A Q ce sl L F (pc + 3) lv st) : zW p l e R s m args below meth c nL G A Q ce sl L F pc lv (.int y :: .int x :: st) := fun H locs ls hP hD hS hl => lv_icmp_ne C.1.1 C.1.2.1 d ht (fun h => kt (fun h9 => h (hp.mpr h9)) H locs ls hP hD hS hl) (fun h => kf (hp.mp (by first | exact h | exact Classical.byContradiction h)) H locs ls hP hD hS hl)
theorem z_if_ne (C : zC p l s m args meth c cc nL Ts own ret G A) {x : Int32} {off : Int} (tgt : Nat) (P : Prop) (hp : x = 0 ↔ P) (d : decode cc pc = .ok (.ifCond .ne off, 3)) (ht : (pc : Int) + off = (tgt : Int)) (kt : ¬ P → zW p l e R s m args below meth c nL G A Q ce sl L F tgt lv st) (kf : P → zW p l e R s m args below meth c nL G A Q ce sl L F (pc + 3) lv st) : zW p l e R s m args below meth c nL G A Q ce sl L F pc lv (.int x :: st) := fun H locs ls hP hD hS hl => lv_if_ne C.1.1 C.1.2.1 d ht (fun h => kt (fun h9 => h (hp.mpr h9)) H locs ls hP hD hS hl) (fun h => kf (hp.mp (by first | exact h | exact Classical.byContradiction h)) H locs ls hP hD hS hl)
theorem z_goto (C : zC p l s m args meth c cc nL Ts own ret G A) {off : Int} (tgt : Nat) (d : decode cc pc = .ok (.goto off, 3)) (ht : (pc : Int) + off = (tgt : Int)) (kk : zW p l e R s m args below meth c nL G A Q ce sl L F tgt lv st) : zW p l e R s m args below meth c nL G A Q ce sl L F pc lv st := fun H locs ls hP hD hS hl => lv_goto C.1.1 C.1.2.1 d ht (kk H locs ls hP hD hS hl)
theorem z_pop (C : zC p l s m args meth c cc nL Ts own ret G A) {v : Value} (d : decode cc pc = .ok (.pop, 1)) (hv : v.category = 1) (kk : zW p l e R s m args below meth c nL G A Q ce sl L F (pc + 1) lv st) : zW p l e R s m args below meth c nL G A Q ce sl L F pc lv (v :: st) := fun H locs ls hP hD hS hl => lv_pop C.1.1 C.1.2.1 d hv (kk H locs ls hP hD hS hl)
theorem z_dup (C : zC p l s m args meth c cc nL Ts own ret G A) {v : Value} (d : decode cc pc = .ok (.dup, 1)) (hv : v.category = 1) (kk : zW p l e R s m args below meth c nL G A Q ce sl L F (pc + 1) lv (v :: v :: st)) : zW p l e R s m args below meth c nL G A Q ce sl L F pc lv (v :: st) := fun H locs ls hP hD hS hl => lv_dup C.1.1 C.1.2.1 d hv (kk H locs ls hP hD hS hl)
theorem z_dup_x1 (C : zC p l s m args meth c cc nL Ts own ret G A) {v u : Value} (d : decode cc pc = .ok (.dup_x1, 1)) (hv : v.category = 1) (hu : u.category = 1) (kk : zW p l e R s m args below meth c nL G A Q ce sl L F (pc + 1) lv (v :: u :: v :: st)) : zW p l e R s m args below meth c nL G A Q ce sl L F pc lv (v :: u :: st) := fun H locs ls hP hD hS hl => lv_dup_x1 C.1.1 C.1.2.1 d hv hu (kk H locs ls hP hD hS hl)
theorem z_dup2 (C : zC p l s m args meth c cc nL Ts own ret G A) {v u : Value} (d : decode cc pc = .ok (.dup2, 1)) (hv : v.category = 1) (hu : u.category = 1) (kk : zW p l e R s m args below meth c nL G A Q ce sl L F (pc + 1) lv (v :: u :: v :: u :: st)) : zW p l e R s m args below meth c nL G A Q ce sl L F pc lv (v :: u :: st) := fun H locs ls hP hD hS hl => lv_dup2_11 C.1.1 C.1.2.1 d hv hu (kk H locs ls hP hD hS hl)
theorem z_sub {lv' : List (Nat × Value)} (ks : List Nat) (h : lv_pick lv ks = lv') (kk : zW p l e R s m args below meth c nL G A Q ce sl L F pc (lv') st) : zW p l e R s m args below meth c nL G A Q ce sl L F pc lv st := fun H locs ls hP hD hS hl => kk H locs ls hP hD hS (lv_sub hl ks h)
theorem z_wide (k n : Nat) (h1 : ce ≤ k) (h2 : sl ≤ n) (kk : zW p l e R s m args below meth c nL G A Q k n L F pc lv st) : zW p l e R s m args below meth c nL G A Q ce sl L F pc lv st := fun H locs ls hP hD hS hl => W.widen h1 h2 (kk H locs ls hP hD hS hl)
theorem z_stk {st' : List Value} (h : st = st') (kk : zW p l e R s m args below meth c nL G A Q ce sl L F pc lv (st')) : zW p l e R s m args below meth c nL G A Q ce sl L F pc lv st := by rw [h]; exact kk
theorem z_lvs {lv' : List (Nat × Value)} (h : lv = lv') (kk : zW p l e R s m args below meth c nL G A Q ce sl L F pc (lv') st) : zW p l e R s m args below meth c nL G A Q ce sl L F pc lv st := by rw [h]; exact kk
theorem z_new {F' : Nat → va_E} (h : F = F') (kk : zW p l e R s m args below meth c nL G A Q ce sl L (F') pc lv st) : zW p l e R s m args below meth c nL G A Q ce sl L F pc lv st := by rw [h]; exact kk
theorem z_get (C : zC p l s m args meth c cc nL Ts own ret G A) {ref Cn : String} {T : u_T} {N ci index : Nat} {a : Nat} {fs : List Value} {v : Value} (hin : ∀ w ∈ u_ws Cn T N, w ∈ Ts) (hL : a ∈ L) (hF : F a = .inr (ci, fs)) (hc : vwCl[ci]? = some (Cn, T, N)) (k : Nat) (hk : k < N) (hlink : Cond.fieldLink own index ref (T k).2.1 (T k).2.2.1 ∈ Ts) (hsame : ∀ x, s.fieldFound? (T k).1 (T k).2.1 (T k).2.2.1 = some x → s.fieldFound? ref (T k).2.1 (T k).2.2.1 = some x) (hv : fs[k]? = some v) (d : decode cc pc = .ok (.getfield index, 3)) (kk : zW p l e R s m args below meth c nL G A Q ce sl L F (pc + 3) lv (v :: st)) : zW p l e R s m args below meth c nL G A Q ce sl L F pc lv (.ref a :: st) := fun H locs ls hP hD hS hl => by
  obtain ⟨q0, hq⟩ := zAt hL hF
  exact va_get C.1.1 C.1.2.1 C.1.2.2.2.2 hin C.1.2.2.2.1 C.2.2.2.1 hP q0 hq hc k hk (C.1.2.2.2.2 _ hlink) hsame hv d (kk H locs ls hP hD hS hl)
theorem z_getN (C : zC p l s m args meth c cc nL Ts own ret G A) {ref Cn : String} {T : u_T} {N ci index : Nat} {a : Nat} {fs : List Value} {v : Value} (hin : ∀ w ∈ u_ws Cn T N, w ∈ Ts) (hL : a ∈ L) (hF : F a = .inr (ci, fs)) (hc : vwCl[ci]? = some (Cn, T, N)) (k : Nat) (hk : k < N) {host : String} (hlink : (own, index, ref, (T k).2.1, (T k).2.2.1, host) ∈ zNestF) (hsame : ∀ x, s.fieldFound? (T k).1 (T k).2.1 (T k).2.2.1 = some x → s.fieldFound? ref (T k).2.1 (T k).2.2.1 = some x) (hv : fs[k]? = some v) (d : decode cc pc = .ok (.getfield index, 3)) (kk : zW p l e R s m args below meth c nL G A Q ce sl L F (pc + 3) lv (v :: st)) : zW p l e R s m args below meth c nL G A Q ce sl L F pc lv (.ref a :: st) := fun H locs ls hP hD hS hl => by
  obtain ⟨q0, hq⟩ := zAt hL hF
  exact va_getN C.1.1 C.1.2.1 C.1.2.2.2.2 hin C.1.2.2.2.1 C.2.2.2.1 hP q0 hq hc k hk (va_Nw.use rfl (C.2.2.2.2.1.2.2.2.1 _ hlink)) hsame hv d (kk H locs ls hP hD hS hl)
theorem z_put (C : zC p l s m args meth c cc nL Ts own ret G A) {ref Cn : String} {T : u_T} {N ci index : Nat} {a : Nat} {fs : List Value} {v : Value} {fs' : List Value} (hin : ∀ w ∈ u_ws Cn T N, w ∈ Ts) (ty0 : Nat → FieldType) (hty : ∀ k, k < N → parseFieldDescriptor (T k).2.2.1 = some (ty0 k)) (hnm : ∀ a, a < N → ∀ b, b < N → a ≠ b → (T a).2.1 ≠ (T b).2.1) (hL : a ∈ L) (hF : F a = .inr (ci, fs)) (hc : vwCl[ci]? = some (Cn, T, N)) (k : Nat) (hk : k < N) (hlink : Cond.fieldLink own index ref (T k).2.1 (T k).2.2.1 ∈ Ts) (hsame : ∀ x, s.fieldFound? (T k).1 (T k).2.1 (T k).2.2.1 = some x → s.fieldFound? ref (T k).2.1 (T k).2.2.1 = some x) (hfin : (T k).2.2.2 = false) (hn : narrow (ty0 k) v = v) (hfit : fits (ty0 k) v = true) (hl9 : k < fs.length) (hfs : fs.set k v = fs') (d : decode cc pc = .ok (.putfield index, 3)) (kk : ∀ F1 : Nat → va_E, F1 a = .inr (ci, fs') → (∀ b, b ≠ a → F1 b = F b) → zW p l e R s m args below meth c nL G A Q ce sl L F1 (pc + 3) lv st) : zW p l e R s m args below meth c nL G A Q ce sl L F pc lv (v :: .ref a :: st) := fun H locs ls hP hD hS hl => by
  obtain ⟨q0, hq⟩ := zAt hL hF
  refine va_put C.1.1 C.1.2.1 C.1.2.2.2.2 hin ty0 hty hnm C.1.2.2.2.1 C.2.2.2.1 hP hD hS q0 hq hc k hk (C.1.2.2.2.2 _ hlink) hsame hfin (hty k hk) hn hfit hl9 d (fun H1 locs1 hP1 hD1 hS1 => ?_)
  rw [zSt hD hL hF hq, hfs] at hP1 hD1
  exact kk _ (va_up_self _ _ _) (fun b hb => va_up_ne _ _ hb) H1 locs1 ls hP1 hD1 hS1 hl
theorem z_putF (C : zC p l s m args meth c cc nL Ts own ret G A) {ref Cn : String} {T : u_T} {N ci index : Nat} {a : Nat} {fs : List Value} {v : Value} {fs' : List Value} (hin : ∀ w ∈ u_ws Cn T N, w ∈ Ts) (ty0 : Nat → FieldType) (hty : ∀ k, k < N → parseFieldDescriptor (T k).2.2.1 = some (ty0 k)) (hnm : ∀ a, a < N → ∀ b, b < N → a ≠ b → (T a).2.1 ≠ (T b).2.1) (hL : a ∈ L) (hF : F a = .inr (ci, fs)) (hc : vwCl[ci]? = some (Cn, T, N)) (k : Nat) (hk : k < N) (hlink : Cond.fieldLink own index ref (T k).2.1 (T k).2.2.1 ∈ Ts) (hsame : ∀ x, s.fieldFound? (T k).1 (T k).2.1 (T k).2.2.1 = some x → s.fieldFound? ref (T k).2.1 (T k).2.2.1 = some x) (hfin : (T k).2.2.2 = true) (hin2 : meth.name = "<init>") (hdecl : (T k).1 = own) (hn : narrow (ty0 k) v = v) (hfit : fits (ty0 k) v = true) (hl9 : k < fs.length) (hfs : fs.set k v = fs') (d : decode cc pc = .ok (.putfield index, 3)) (kk : ∀ F1 : Nat → va_E, F1 a = .inr (ci, fs') → (∀ b, b ≠ a → F1 b = F b) → zW p l e R s m args below meth c nL G A Q ce sl L F1 (pc + 3) lv st) : zW p l e R s m args below meth c nL G A Q ce sl L F pc lv (v :: .ref a :: st) := fun H locs ls hP hD hS hl => by
  obtain ⟨q0, hq⟩ := zAt hL hF
  refine va_putF C.1.1 C.1.2.1 C.1.2.2.2.2 hin ty0 hty hnm C.1.2.2.2.1 C.2.2.2.1 hP hD hS q0 hq hc k hk (C.1.2.2.2.2 _ hlink) hsame hfin hin2 hdecl (hty k hk) hn hfit hl9 d (fun H1 locs1 hP1 hD1 hS1 => ?_)
  rw [zSt hD hL hF hq, hfs] at hP1 hD1
  exact kk _ (va_up_self _ _ _) (fun b hb => va_up_ne _ _ hb) H1 locs1 ls hP1 hD1 hS1 hl
theorem z_putN (C : zC p l s m args meth c cc nL Ts own ret G A) {ref Cn : String} {T : u_T} {N ci index : Nat} {a : Nat} {fs : List Value} {v : Value} {fs' : List Value} (hin : ∀ w ∈ u_ws Cn T N, w ∈ Ts) (ty0 : Nat → FieldType) (hty : ∀ k, k < N → parseFieldDescriptor (T k).2.2.1 = some (ty0 k)) (hnm : ∀ a, a < N → ∀ b, b < N → a ≠ b → (T a).2.1 ≠ (T b).2.1) (hL : a ∈ L) (hF : F a = .inr (ci, fs)) (hc : vwCl[ci]? = some (Cn, T, N)) (k : Nat) (hk : k < N) {host : String} (hlink : (own, index, ref, (T k).2.1, (T k).2.2.1, host) ∈ zNestF) (hsame : ∀ x, s.fieldFound? (T k).1 (T k).2.1 (T k).2.2.1 = some x → s.fieldFound? ref (T k).2.1 (T k).2.2.1 = some x) (hfin : (T k).2.2.2 = false) (hn : narrow (ty0 k) v = v) (hfit : fits (ty0 k) v = true) (hl9 : k < fs.length) (hfs : fs.set k v = fs') (d : decode cc pc = .ok (.putfield index, 3)) (kk : ∀ F1 : Nat → va_E, F1 a = .inr (ci, fs') → (∀ b, b ≠ a → F1 b = F b) → zW p l e R s m args below meth c nL G A Q ce sl L F1 (pc + 3) lv st) : zW p l e R s m args below meth c nL G A Q ce sl L F pc lv (v :: .ref a :: st) := fun H locs ls hP hD hS hl => by
  obtain ⟨q0, hq⟩ := zAt hL hF
  refine va_putN C.1.1 C.1.2.1 C.1.2.2.2.2 hin ty0 hty hnm C.1.2.2.2.1 C.2.2.2.1 hP hD hS q0 hq hc k hk (va_Nw.use rfl (C.2.2.2.2.1.2.2.2.1 _ hlink)) hsame hfin (hty k hk) hn hfit hl9 d (fun H1 locs1 hP1 hD1 hS1 => ?_)
  rw [zSt hD hL hF hq, hfs] at hP1 hD1
  exact kk _ (va_up_self _ _ _) (fun b hb => va_up_ne _ _ hb) H1 locs1 ls hP1 hD1 hS1 hl
theorem z_iald (C : zC p l s m args meth c cc nL Ts own ret G A) {a n i : Nat} {f : Nat → Int32} (hL : a ∈ L) (hF : F a = .inl (G.2.1, n, .inl f)) (hi : i < n) (hn : n < 2 ^ 31) (d : decode cc pc = .ok (.iaload, 1)) (v : Int32) (hv : f i = v) (kk : zW p l e R s m args below meth c nL G A Q ce sl L F (pc + 1) lv (.int v :: st)) : zW p l e R s m args below meth c nL G A Q ce sl L F pc lv (.int (nI i) :: .ref a :: st) := fun H locs ls hP hD hS hl => by
  obtain ⟨q0, hq⟩ := zAt hL hF
  refine va_iald C.1.1 C.1.2.1 C.2.2.2.1 hP q0 0 hq rfl (vp_in_nI hi hn) d ?_
  rw [nI_clamp (by omega), hv]
  exact kk H locs ls hP hD hS hl
theorem z_iast (C : zC p l s m args meth c cc nL Ts own ret G A) {a n i : Nat} {f : Nat → Int32} {x : Int32} (hL : a ∈ L) (hF : F a = .inl (G.2.1, n, .inl f)) (hi : i < n) (hn : n < 2 ^ 31) (d : decode cc pc = .ok (.iastore, 1)) (kk : ∀ F1 : Nat → va_E, F1 a = .inl (G.2.1, n, .inl (upd f i x)) → (∀ b, b ≠ a → F1 b = F b) → zW p l e R s m args below meth c nL G A Q ce sl L F1 (pc + 1) lv st) : zW p l e R s m args below meth c nL G A Q ce sl L F pc lv (.int x :: .int (nI i) :: .ref a :: st) := fun H locs ls hP hD hS hl => by
  obtain ⟨q0, hq⟩ := zAt hL hF
  refine va_iast C.1.1 C.1.2.1 C.2.2.2.1 hP hD hS q0 0 hq rfl (vp_in_nI hi hn) d (fun H1 locs1 hP1 hD1 hS1 => ?_)
  rw [zSt hD hL hF hq, nI_clamp (by omega)] at hP1 hD1
  exact kk _ (va_up_self _ _ _) (fun b hb => va_up_ne _ _ hb) H1 locs1 ls hP1 hD1 hS1 hl
theorem z_aldq (C : zC p l s m args meth c cc nL Ts own ret G A) {a n i : Nat} {f : Nat → Option Nat} (hL : a ∈ L) (hF : F a = .inl (G.2.2.1, n, .inr (.inr (.inr (.inr f))))) (hi : i < n) (hn : n < 2 ^ 31) (d : decode cc pc = .ok (.aaload, 1)) (v : Nat) (hv : f i = some v) (kk : zW p l e R s m args below meth c nL G A Q ce sl L F (pc + 1) lv (.ref v :: st)) : zW p l e R s m args below meth c nL G A Q ce sl L F pc lv (.int (nI i) :: .ref a :: st) := fun H locs ls hP hD hS hl => by
  obtain ⟨q0, hq⟩ := zAt hL hF
  refine va_aldq C.1.1 C.1.2.1 C.2.2.2.1 hP q0 1 hq rfl (vp_in_nI hi hn) d ?_
  rw [nI_clamp (by omega), hv]
  exact kk H locs ls hP hD hS hl
end ZA
end
section
section ZB
variable {p : Program} {l : Launch} {e : Env} {R : Room} {s : State} {m : MethodId} {args : Array Value} {below : List Frame} {meth : Method} {c : Code} {cc : ByteArray} {nL : Nat} {Ts : List Cond} {own : String} {ret : Option FieldType} {G : zGt} {A : Nat → Prop} {Q : State → Prop} {ce sl : Nat} {L : List Nat} {F : Nat → va_E} {pc : Nat} {lv : List (Nat × Value)} {st : List Value}
variable {mc ms : Nat} {post : zPt} {px : zPx}
theorem zA_of {L : List Nat} {sz : Nat} : ∀ q, sz ≤ q → zA L sz q := fun _ h => Or.inr h
theorem z_begin {Q : State → Prop} {as : List Value} {ws ws' : List Cond} {y : MethodName} {rm : Room} {s₁ : State} {sz : Nat} (hlst : l.stackTraces = false) (hcls : y.cls = own)
    (B : BodyLoose p l y (headSpec ws rm) cc nL ret e s m args below meth c s₁) (hml : c.maxLocals = nL) (hv : va_Pc as (zPre G L F sz) args s) (hn : (lg_sl as).length ≤ nL)
    (k : zC p l s m as.toArray meth c cc nL ws own ret G (zA L sz) → zW p l e rm s m as.toArray below meth c nL G (zA L sz) Q 0 0 L F 0 (lv_args 0 as) []) : W p l e rm s m args below meth c s.heap [] 0 0 Q (entryFrame m args nL) := by
  obtain ⟨rfl, hsz, hR, hK, hS0⟩ := hv
  subst hsz
  have hC : zC p l s m as.toArray meth c cc nL ws own ret G (zA L s.heap.size) := ⟨⟨B.exec, B.bytes, hml, by rw [← hcls]; exact findClass_of_methodNamed B.named, atoms_spec (ws := ws) B.pre⟩, B.returns, B.notSynchronized, hK, hS0, zA_of, hlst⟩
  rw [lg_entry_eq]
  exact k hC s.heap [] _ hR.1 (zD_pl hR.2 (fun q h => Or.inl h)) va_S.rf (lv_entry as hn)
theorem z_of {as : List Value} {ws ws' : List Cond} {y : MethodName} {fr lo : Nat} (hlst : l.stackTraces = false) (hy : plainName y.cls = true) (hw : ws = Cond.code y cc nL ret :: ws') (hcls : y.cls = own) (hn : (lg_sl as).length ≤ nL)
    (body : ∀ (p : Program) (e : Env) (s : State) (m : MethodId) (below : List Frame) (meth : Method) (c : Code) (A : Nat → Prop), meth.name = y.name → zC p l s m as.toArray meth c cc nL ws own ret G A →
      zW p l e { frames := fr, cells := mc, slots := ms, locals := lo } s m as.toArray below meth c nL G A (MQ below (zQ G post A) as.toArray s mc ms A) 0 0 L F 0 (lv_args 0 as) []) : zM l y ws fr lo mc ms G L F as post := by
  intro sz
  refine Met.ofW (cc := cc) (maxL := nL) (ret := ret) hy hw ?_
  intro p e s m args below meth c s₁ B hml hv
  obtain ⟨ha, -⟩ := id hv
  subst ha
  exact z_begin (ws' := ws') hlst hcls B hml hv hn (fun C => body p e s m below meth c _ (name_of_methodNamed B.named B.method).1 C)
theorem z_ofX {as : List Value} {ws ws' : List Cond} {y : MethodName} {fr lo : Nat} (hlst : l.stackTraces = false) (hy : plainName y.cls = true) (hw : ws = Cond.code y cc nL ret :: ws') (hcls : y.cls = own) (hn : (lg_sl as).length ≤ nL)
    (body : ∀ (p : Program) (e : Env) (s : State) (m : MethodId) (below : List Frame) (meth : Method) (c : Code) (A : Nat → Prop), (∀ x ∈ c.exceptionTable.toList, False) → zC p l s m as.toArray meth c cc nL ws own ret G A →
      zW p l e { frames := fr, cells := mc, slots := ms, locals := lo } s m as.toArray below meth c nL G A (vx_MQ below (zQ G post A) (zE G px A) as.toArray s mc ms A) 0 0 L F 0 (lv_args 0 as) []) : zX l y ws fr lo mc ms G L F as post px := by
  intro sz
  refine vx_ofW (cc := cc) (maxL := nL) (ret := ret) hy hw ?_
  intro p e s m args below meth c s₁ B hml ht hv
  obtain ⟨ha, -⟩ := id hv
  subst ha
  exact z_begin (ws' := ws') hlst hcls B hml hv hn (fun C => body p e s m below meth c _ ht C)
theorem z_ofH {as : List Value} {ws ws' : List Cond} {y : MethodName} {fr lo : Nat} {hh : List (Nat × Nat × Nat × Nat)} (hlst : l.stackTraces = false) (hy : plainName y.cls = true) (hw : ws = Cond.codeWith y cc nL ret hh :: ws') (hcls : y.cls = own) (hn : (lg_sl as).length ≤ nL)
    (body : ∀ (p : Program) (e : Env) (s : State) (m : MethodId) (below : List Frame) (meth : Method) (c : Code) (A : Nat → Prop), c.exceptionTable.toList = tableOf hh → zC p l s m as.toArray meth c cc nL ws own ret G A →
      zW p l e { frames := fr, cells := mc, slots := ms, locals := lo } s m as.toArray below meth c nL G A (vx_MQ below (zQ G post A) (zE G px A) as.toArray s mc ms A) 0 0 L F 0 (lv_args 0 as) []) : zX l y ws fr lo mc ms G L F as post px := by
  intro sz
  refine vx_ofWH (cc := cc) (maxL := nL) (ret := ret) (hh := hh) hy hw ?_
  intro p e s m args below meth c s₁ B hml hv
  obtain ⟨ha, -⟩ := id hv
  subst ha
  exact z_begin (ws' := ws') hlst hcls B hml hv hn (fun C => body p e s m below meth c _ (vx_table (x := y) B (atoms_spec (ws := ws) B.pre _ (by rw [hw]; exact List.mem_cons_self))) C)

theorem z_iret0 (C : zC p l s m args meth c cc nL Ts own ret G A) {v : Int32} {ty : FieldType} (hret : ret = some ty) (hn : narrow ty (.int v) = .int v) (hc : ce ≤ mc) (hs : sl ≤ ms) (d : decode cc pc = .ok (.ireturn, 1)) (h : post (some (.int v)) L F) : zW p l e R s m args below meth c nL G A (MQ below (zQ G post A) args s mc ms A) ce sl L F pc lv [.int v] := by
  intro H locs ls hP hD hS hl
  refine W.widen hc hs ?_
  exact W.zret C.1.1 C.1.2.1 (C.2.1.trans hret) hn (fun t ht hW => ⟨⟨_, L, F, rfl, h, by rw [ht]; exact hP, hD⟩, hS.F ht⟩) hS.2.2 d C.2.2.1
theorem z_vret0 (C : zC p l s m args meth c cc nL Ts own ret G A) (hret : ret = none) (hc : ce ≤ mc) (hs : sl ≤ ms) (d : decode cc pc = .ok (.return_, 1)) (h : post none L F) : zW p l e R s m args below meth c nL G A (MQ below (zQ G post A) args s mc ms A) ce sl L F pc lv [] := by
  intro H locs ls hP hD hS hl
  refine W.widen hc hs ?_
  exact W.vret C.1.1 C.1.2.1 (C.2.1.trans hret) (fun t ht hW => ⟨⟨_, L, F, rfl, h, by rw [ht]; exact hP, hD⟩, hS.F ht⟩) hS.2.2 d C.2.2.1
theorem z_aret0 (C : zC p l s m args meth c cc nL Ts own ret G A) {a : Nat} {ty : FieldType} (hret : ret = some ty) (hty : (∃ n, ty = .object n) ∨ ∃ t, ty = .array t) (hc : ce ≤ mc) (hs : sl ≤ ms) (d : decode cc pc = .ok (.areturn, 1)) (h : post (some (.ref a)) L F) : zW p l e R s m args below meth c nL G A (MQ below (zQ G post A) args s mc ms A) ce sl L F pc lv [.ref a] := by
  intro H locs ls hP hD hS hl
  refine W.widen hc hs ?_
  exact W.aret C.1.1 C.1.2.1 (C.2.1.trans hret) hty (Or.inr ⟨a, rfl⟩) (fun t ht hW => ⟨⟨_, L, F, rfl, h, by rw [ht]; exact hP, hD⟩, hS.F ht⟩) hS.2.2 d C.2.2.1
theorem z_x (kk : zW p l e R s m args below meth c nL G A (MQ below (zQ G post A) args s mc ms A) ce sl L F pc lv st) : zW p l e R s m args below meth c nL G A (vx_MQ below (zQ G post A) (zE G px A) args s mc ms A) ce sl L F pc lv st := fun H locs ls hP hD hS hl => vx_ret (kk H locs ls hP hD hS hl)
theorem z_iret (C : zC p l s m args meth c cc nL Ts own ret G A) {v : Int32} {ty : FieldType} (hret : ret = some ty) (hn : narrow ty (.int v) = .int v) (hc : ce ≤ mc) (hs : sl ≤ ms) (d : decode cc pc = .ok (.ireturn, 1)) (h : post (some (.int v)) L F) : zW p l e R s m args below meth c nL G A (vx_MQ below (zQ G post A) (zE G px A) args s mc ms A) ce sl L F pc lv [.int v] := z_x (z_iret0 C hret hn hc hs d h)
theorem z_vret (C : zC p l s m args meth c cc nL Ts own ret G A) (hret : ret = none) (hc : ce ≤ mc) (hs : sl ≤ ms) (d : decode cc pc = .ok (.return_, 1)) (h : post none L F) : zW p l e R s m args below meth c nL G A (vx_MQ below (zQ G post A) (zE G px A) args s mc ms A) ce sl L F pc lv [] := z_x (z_vret0 C hret hc hs d h)
theorem z_aret (C : zC p l s m args meth c cc nL Ts own ret G A) {a : Nat} {ty : FieldType} (hret : ret = some ty) (hty : (∃ n, ty = .object n) ∨ ∃ t, ty = .array t) (hc : ce ≤ mc) (hs : sl ≤ ms) (d : decode cc pc = .ok (.areturn, 1)) (h : post (some (.ref a)) L F) : zW p l e R s m args below meth c nL G A (vx_MQ below (zQ G post A) (zE G px A) args s mc ms A) ce sl L F pc lv [.ref a] := z_x (z_aret0 C hret hty hc hs d h)

def zBad (cls : String) : List Cond := .castable cls cls :: zDecls.map (fun q => .declares q)
theorem z_throw (C : zC p l s m args meth c cc nL Ts own ret G A) {cls text : String} {ik is ic : Nat} (ho : own = RX2) (hcls : Bundle.fit cls = true) (hk : Cond.classLink own ik cls ∈ Ts) (hini : Cond.initialized cls ∈ Ts) (hstr : (is, text) ∈ zStrs) (names : List String) (hnames : ∀ n ∈ names, Bundle.fit n = true)
    (hat : ∀ w ∈ (vx_atS own ic cls names).filter goodWord, w ∈ Ts) (hbad : ∀ w ∈ (vx_atS own ic cls names).filter (fun w => !goodWord w), w ∈ zBad cls) (hcst : (cls, cls) ∈ zCasts)
    (hgood : ∀ w ∈ Cond.classLink own ik cls :: Cond.initialized cls :: vx_atS own ic cls names, vx_ot w = true)
    (d0 : decode cc pc = .ok (.new ik, 3)) (d3 : decode cc (pc + 3) = .ok (.dup, 1)) (d4 : decode cc (pc + 4) = .ok (.ldc is, 2)) (d6 : decode cc (pc + 6) = .ok (.invokespecial ic, 3)) (d9 : decode cc (pc + 9) = .ok (.athrow, 1))
    (hout : ∀ x ∈ c.exceptionTable.toList, False) (hRf : names.length + 3 < R.frames) (hRl : (st.map fun v => v.category).sum + (13 * (names.length + 1) + 43) ≤ R.locals) (hRc : ce + 1 ≤ R.cells) (hRs : sl + 6 ≤ R.slots) (hc : ce + 1 ≤ mc) (hs : sl + 6 ≤ ms) (h : px cls L F) : zW p l e R s m args below meth c nL G A (vx_MQ below (zQ G post A) (zE G px A) args s mc ms A) ce sl L F pc lv st := by
  intro H locs ls hP hD hS hl
  obtain ⟨sa, hsa⟩ := C.2.2.2.2.1.2.1 _ hstr
  subst ho
  have hb9 : ∀ w ∈ zBad cls, w.before args s = true := by
    intro w hw
    rcases List.mem_cons.mp hw with rfl | hw
    · exact va_Nw.use rfl (C.2.2.2.2.1.2.2.2.2.1 _ hcst)
    · obtain ⟨q, hq, rfl⟩ := List.mem_map.mp hw
      exact va_Nw.use rfl (C.2.2.2.2.1.2.2.2.2.2.2.2.2.2 q hq)
  refine vx_throwS C.1.1 C.1.2.1 C.2.2.2.2.2.2 C.1.2.2.2.1 hcls hnames (C.1.2.2.2.2 _ hk) (C.1.2.2.2.2 _ hini) hsa (vx_hat (fun w hw => C.1.2.2.2.2 w (hat w hw)) hbad hb9) hgood C.2.2.2.2.1.1.1 C.2.2.2.2.1.1.2.1 hS (hl.1.trans C.1.2.2.1.symm) d0 d3 d4 d6 d9 (fun x hx => (hout x hx).elim) hRf hRl hRc hRs C.2.2.1 ?_ hS.2.2 hc hs
  intro t hvm hz hk9
  refine ⟨⟨L, F, h, hP.kept (fun k q hq => hk9 _ ((hP k q hq).lt)), hD⟩, ?_⟩
  exact ⟨Nat.le_trans hS.1 hz, fun q h1 h2 => by rw [hk9 q (Nat.lt_of_lt_of_le h1 hS.1)]; exact hS.2.1 q h1 h2⟩
theorem z_out (C : zC p l s m args meth c cc nL Ts own ret G A) {E : String} (hout : ∀ x ∈ c.exceptionTable.toList, False) (hc : ce ≤ mc) (hs : sl ≤ ms) (h : px E L F) : zV p l e R s m args below meth c nL G A (vx_MQ below (zQ G post A) (zE G px A) args s mc ms A) E ce sl L F pc lv st := by
  intro H locs ls q cell hP hD hS hl hq hv hcl
  exact vx_out (fun x hx => (hout x hx).elim) C.2.2.1 hq hv hcl (fun t ht _ => ⟨⟨L, F, h, by rw [ht]; exact hP, hD⟩, hS.F ht⟩) hS.2.2 hc hs

theorem z_pre (C : zC p l s m args meth c cc nL Ts own ret G A) {H : Heap} {locs : List Loc} (hP : va_P G.1 vwCl (va_pl L F) H) (hD : va_D A (va_pl L F)) (hS : va_S A s.heap H locs) (as : List Value) : ∀ U : State, U.heap = H → s.WarmedH U.vm → va_Pc as (zPre G L F H.size) as.toArray U := by
  intro U hU hW
  refine ⟨rfl, by rw [hU], ⟨by rw [hU]; exact hP, zD_pl hD (fun _ _ => trivial)⟩, va_K.moved hW.alike C.2.2.2.1, ?_⟩
  rw [hU]
  exact ((C.2.2.2.2.1.warm hW).kept (fun a h1 h2 => hS.2.1 a h1 h2)).narrow (fun q hq => hq.elim (fun h => zD_in hD q h) (fun h => C.2.2.2.2.2.1 q (Nat.le_trans hS.1 h)))
theorem z_zA (C : zC p l s m args meth c cc nL Ts own ret G A) {H : Heap} {locs : List Loc} (hD : va_D A (va_pl L F)) (hS : va_S A s.heap H locs) : ∀ q, zA L H.size q → A q := fun q hq => hq.elim (fun h => zD_in hD q h) (fun h => C.2.2.2.2.2.1 q (Nat.le_trans hS.1 h))
theorem z_after (C : zC p l s m args meth c cc nL Ts own ret G A) {a : Array Value} {st0 rest : List Value} (hr : ∀ (H : Heap) (locs : List Loc) (ls : Array Slot), va_P G.1 vwCl (va_pl L F) H → va_D A (va_pl L F) → va_S A s.heap H locs → lv_has ls nL lv → va_Run p l e R s m args below meth c H locs ce sl mc ms (F0 m pc ls st0) rest (zQ G post (zA L H.size) a) (zA L H.size))
    (kk : ∀ (rv : Option Value) (L' : List Nat) (F' : Nat → va_E), post rv L' F' → zW p l e R s m args below meth c nL G A Q (ce + mc) (sl + ms) (L') (F') (pc + 3) lv (rv.toList ++ rest)) : zW p l e R s m args below meth c nL G A Q ce sl L F pc lv st0 := by
  intro H locs ls hP hD hS hl T hT X
  have hA := z_zA C hD hS
  obtain ⟨v, st₀, t, T', L9, h0, X', hL, e1, e2, ⟨⟨rv, L1, F1, hv, hp, hR⟩, hF⟩, st⟩ := hr H locs ls hP hD hS hl T hT X
  cases hv
  obtain ⟨k1, k2, k3⟩ := vx_keep h0 e1 hS (fun q _ h => hA q h) hA hL hF
  obtain ⟨t2, a1, b1⟩ := kk v L1 F1 hp T'.heap (locs ++ L9) ls (by rw [e1]; exact hR.1) (zD_pl hR.2 (fun q h => hA q (zD_in hR.2 q h))) k3 hl T' rfl X'
  exact ⟨t2, st t2 a1, b1⟩
theorem z_afterX (C : zC p l s m args meth c cc nL Ts own ret G A) {a : Array Value} {st0 rest : List Value} (hr : ∀ (H : Heap) (locs : List Loc) (ls : Array Slot), va_P G.1 vwCl (va_pl L F) H → va_D A (va_pl L F) → va_S A s.heap H locs → lv_has ls nL lv → vx_Run p l e R s m args below meth c H locs ce sl mc ms (F0 m pc ls st0) rest (zQ G post (zA L H.size) a) (zE G px (zA L H.size)) (zA L H.size))
    (kx : ∀ (E : String) (L' : List Nat) (F' : Nat → va_E), px E L' F' → zV p l e R s m args below meth c nL G A Q E (ce + mc) (sl + ms) (L') (F') pc lv rest)
    (kk : ∀ (rv : Option Value) (L' : List Nat) (F' : Nat → va_E), post rv L' F' → zW p l e R s m args below meth c nL G A Q (ce + mc) (sl + ms) (L') (F') (pc + 3) lv (rv.toList ++ rest)) : zW p l e R s m args below meth c nL G A Q ce sl L F pc lv st0 := by
  intro H locs ls hP hD hS hl T hT X
  have hA := z_zA C hD hS
  rcases hr H locs ls hP hD hS hl T hT X with ⟨v, st₀, t, T', L9, h0, X', hL, e1, e2, ⟨⟨rv, L1, F1, hv, hp, hR⟩, hF⟩, st⟩ | ⟨q, st₀, t, T', L9, E, cell, h0, X', hL, e1, e2, ⟨⟨L1, F1, hp, hR⟩, hF⟩, hce, hcv, hcl, st⟩
  · cases hv
    obtain ⟨k1, k2, k3⟩ := vx_keep h0 e1 hS (fun q _ h => hA q h) hA hL hF
    obtain ⟨t2, a1, b1⟩ := kk v L1 F1 hp T'.heap (locs ++ L9) ls (by rw [e1]; exact hR.1) (zD_pl hR.2 (fun q h => hA q (zD_in hR.2 q h))) k3 hl T' rfl X'
    exact ⟨t2, st t2 a1, b1⟩
  · obtain ⟨k1, k2, k3⟩ := vx_keep h0 e1 hS (fun q _ h => hA q h) hA hL hF
    obtain ⟨t2, a1, b1⟩ := kx E L1 F1 hp T'.heap (locs ++ L9) ls q cell (by rw [e1]; exact hR.1) (zD_pl hR.2 (fun q h => hA q (zD_in hR.2 q h))) k3 hl (by rw [e1]; exact hce) hcv hcl T' rfl X'
    exact ⟨t2, st.trans a1, b1⟩

theorem zKmv (C : zC p l s m args meth c cc nL Ts own ret G A) : va_K G.1 vwCl (zT G) s := C.2.2.2.1
theorem z_callV (C : zC p l s m args meth c cc nL Ts own ret G A) {y : MethodName} {ws : List Cond} {fr lo : Nat} {bytes : ByteArray} {maxL n index : Nat} {ry : Option FieldType} {As : List Value} {ci : Nat} {q9 : vw_C} {fs : List Value} {b : Nat} (hb : b ∈ L) (hFb : F b = .inr (ci, fs)) (hc9 : vwCl[ci]? = some q9) (hM : zM l y ws fr lo mc ms G L F (.ref b :: As) post) (cw : CallW R s args own q9.1 index y bytes maxL ry ws { frames := fr, cells := mc, slots := ms, locals := lo } mc ms n) (hn : As.length = n) (hst : (st.map fun v => v.category).sum ≤ 8) (hf : ce + mc ≤ R.cells ∧ sl + ms ≤ R.slots) (d : decode cc pc = .ok (.invokevirtual index, 3)) (kk : ∀ (rv : Option Value) (L' : List Nat) (F' : Nat → va_E), post rv L' F' → zW p l e R s m args below meth c nL G A Q (ce + mc) (sl + ms) (L') (F') (pc + 3) lv (rv.toList ++ st)) : zW p l e R s m args below meth c nL G A Q ce sl L F pc lv (As.reverse ++ .ref b :: st) := by
  obtain ⟨k9, hk9⟩ := zAt hb hFb
  refine z_after (a := (Value.ref b :: As).toArray) C (fun H locs ls hP hD hS hl => ?_) kk
  exact va_runV C.1 (hM H.size) cw ⟨zPre_blind, va_recv (zKmv C) hP hc9 hk9, z_pre C hP hD hS _⟩ rfl hn hl.1 rfl (lv_room hst) d hf
theorem z_callS (C : zC p l s m args meth c cc nL Ts own ret G A) {y : MethodName} {ws : List Cond} {fr lo : Nat} {bytes : ByteArray} {maxL n index : Nat} {ry : Option FieldType} {As : List Value} (hM : zM l y ws fr lo mc ms G L F As post) (cw : CallB R s args own index y bytes maxL ry ws { frames := fr, cells := mc, slots := ms, locals := lo } mc ms n ∧ (Cond.static y).before args s = true) (hn : As.length = n) (hst : (st.map fun v => v.category).sum ≤ 8) (hf : ce + mc ≤ R.cells ∧ sl + ms ≤ R.slots) (d : decode cc pc = .ok (.invokestatic index, 3)) (kk : ∀ (rv : Option Value) (L' : List Nat) (F' : Nat → va_E), post rv L' F' → zW p l e R s m args below meth c nL G A Q (ce + mc) (sl + ms) (L') (F') (pc + 3) lv (rv.toList ++ st)) : zW p l e R s m args below meth c nL G A Q ce sl L F pc lv (As.reverse ++ st) := by
  refine z_after (a := As.toArray) C (fun H locs ls hP hD hS hl => ?_) kk
  exact va_runS C.1 (hM H.size) cw ⟨zPre_blind, z_pre C hP hD hS _⟩ rfl hn hl.1 rfl (lv_room hst) d hf
theorem z_callVX (C : zC p l s m args meth c cc nL Ts own ret G A) {y : MethodName} {ws : List Cond} {fr lo : Nat} {bytes : ByteArray} {maxL n index : Nat} {ry : Option FieldType} {As : List Value} {ci : Nat} {q9 : vw_C} {fs : List Value} {b : Nat} (hb : b ∈ L) (hFb : F b = .inr (ci, fs)) (hc9 : vwCl[ci]? = some q9) (hM : zX l y ws fr lo mc ms G L F (.ref b :: As) post px) (cw : CallW R s args own q9.1 index y bytes maxL ry ws { frames := fr, cells := mc, slots := ms, locals := lo } mc ms n) (hn : As.length = n) (hst : (st.map fun v => v.category).sum ≤ 8) (hf : ce + mc ≤ R.cells ∧ sl + ms ≤ R.slots) (d : decode cc pc = .ok (.invokevirtual index, 3)) (kx : ∀ (E : String) (L' : List Nat) (F' : Nat → va_E), px E L' F' → zV p l e R s m args below meth c nL G A Q E (ce + mc) (sl + ms) (L') (F') pc lv st) (kk : ∀ (rv : Option Value) (L' : List Nat) (F' : Nat → va_E), post rv L' F' → zW p l e R s m args below meth c nL G A Q (ce + mc) (sl + ms) (L') (F') (pc + 3) lv (rv.toList ++ st)) : zW p l e R s m args below meth c nL G A Q ce sl L F pc lv (As.reverse ++ .ref b :: st) := by
  obtain ⟨k9, hk9⟩ := zAt hb hFb
  refine z_afterX (a := (Value.ref b :: As).toArray) C (fun H locs ls hP hD hS hl => ?_) kx kk
  exact vx_runV C.1 (hM H.size) cw ⟨zPre_blind, va_recv (zKmv C) hP hc9 hk9, z_pre C hP hD hS _⟩ rfl hn hl.1 rfl (lv_room hst) d hf
theorem z_callSX (C : zC p l s m args meth c cc nL Ts own ret G A) {y : MethodName} {ws : List Cond} {fr lo : Nat} {bytes : ByteArray} {maxL n index : Nat} {ry : Option FieldType} {As : List Value} (hM : zX l y ws fr lo mc ms G L F As post px) (cw : CallB R s args own index y bytes maxL ry ws { frames := fr, cells := mc, slots := ms, locals := lo } mc ms n ∧ (Cond.static y).before args s = true) (hn : As.length = n) (hst : (st.map fun v => v.category).sum ≤ 8) (hf : ce + mc ≤ R.cells ∧ sl + ms ≤ R.slots) (d : decode cc pc = .ok (.invokestatic index, 3)) (kx : ∀ (E : String) (L' : List Nat) (F' : Nat → va_E), px E L' F' → zV p l e R s m args below meth c nL G A Q E (ce + mc) (sl + ms) (L') (F') pc lv st) (kk : ∀ (rv : Option Value) (L' : List Nat) (F' : Nat → va_E), post rv L' F' → zW p l e R s m args below meth c nL G A Q (ce + mc) (sl + ms) (L') (F') (pc + 3) lv (rv.toList ++ st)) : zW p l e R s m args below meth c nL G A Q ce sl L F pc lv (As.reverse ++ st) := by
  refine z_afterX (a := As.toArray) C (fun H locs ls hP hD hS hl => ?_) kx kk
  exact vx_runS C.1 (hM H.size) cw ⟨zPre_blind, z_pre C hP hD hS _⟩ rfl hn hl.1 rfl (lv_room hst) d hf
theorem z_callSH (C : zC p l s m args meth c cc nL Ts own ret G A) {y : MethodName} {ws : List Cond} {fr lo : Nat} {bytes : ByteArray} {maxL n index : Nat} {ry : Option FieldType} {As : List Value} {hh : List (Nat × Nat × Nat × Nat)} (hM : zX l y ws fr lo mc ms G L F As post px) (cw : vx_CSW R s args own index y bytes maxL ry hh ws { frames := fr, cells := mc, slots := ms, locals := lo } mc ms n) (hn : As.length = n) (hst : (st.map fun v => v.category).sum ≤ 8) (hf : ce + mc ≤ R.cells ∧ sl + ms ≤ R.slots) (d : decode cc pc = .ok (.invokestatic index, 3)) (kx : ∀ (E : String) (L' : List Nat) (F' : Nat → va_E), px E L' F' → zV p l e R s m args below meth c nL G A Q E (ce + mc) (sl + ms) (L') (F') pc lv st) (kk : ∀ (rv : Option Value) (L' : List Nat) (F' : Nat → va_E), post rv L' F' → zW p l e R s m args below meth c nL G A Q (ce + mc) (sl + ms) (L') (F') (pc + 3) lv (rv.toList ++ st)) : zW p l e R s m args below meth c nL G A Q ce sl L F pc lv (As.reverse ++ st) := by
  refine z_afterX (a := As.toArray) C (fun H locs ls hP hD hS hl => ?_) kx kk
  exact vx_runSX C.1 (hM H.size) cw ⟨zPre_blind, z_pre C hP hD hS _⟩ rfl hn hl.1 rfl (lv_room hst) d hf
theorem z_callVN (C : zC p l s m args meth c cc nL Ts own ret G A) {y : MethodName} {ws : List Cond} {fr lo : Nat} {bytes : ByteArray} {maxL n index : Nat} {ry : Option FieldType} {As : List Value} {host : String} {ci : Nat} {q9 : vw_C} {fs : List Value} {b : Nat} (hb : b ∈ L) (hFb : F b = .inr (ci, fs)) (hc9 : vwCl[ci]? = some q9) (hM : zM l y ws fr lo mc ms G L F (.ref b :: As) post) (cw : va_CN R s args own index y host bytes maxL ry ws { frames := fr, cells := mc, slots := ms, locals := lo } mc ms n ∧ (Cond.instanceMethod y).before args s = true ∧ (Cond.selects q9.1 y y).before args s = true) (hn : As.length = n) (hst : (st.map fun v => v.category).sum ≤ 8) (hf : ce + mc ≤ R.cells ∧ sl + ms ≤ R.slots) (d : decode cc pc = .ok (.invokevirtual index, 3)) (kk : ∀ (rv : Option Value) (L' : List Nat) (F' : Nat → va_E), post rv L' F' → zW p l e R s m args below meth c nL G A Q (ce + mc) (sl + ms) (L') (F') (pc + 3) lv (rv.toList ++ st)) : zW p l e R s m args below meth c nL G A Q ce sl L F pc lv (As.reverse ++ .ref b :: st) := by
  obtain ⟨k9, hk9⟩ := zAt hb hFb
  refine z_after (a := (Value.ref b :: As).toArray) C (fun H locs ls hP hD hS hl => ?_) kk
  exact va_runVN C.1 (hM H.size) cw ⟨zPre_blind, va_recv (zKmv C) hP hc9 hk9, z_pre C hP hD hS _⟩ rfl hn hl.1 rfl (lv_room hst) d hf
theorem z_callSN (C : zC p l s m args meth c cc nL Ts own ret G A) {y : MethodName} {ws : List Cond} {fr lo : Nat} {bytes : ByteArray} {maxL n index : Nat} {ry : Option FieldType} {As : List Value} {host : String} (hM : zM l y ws fr lo mc ms G L F As post) (cw : va_CN R s args own index y host bytes maxL ry ws { frames := fr, cells := mc, slots := ms, locals := lo } mc ms n ∧ (Cond.static y).before args s = true ∧ True) (hn : As.length = n) (hst : (st.map fun v => v.category).sum ≤ 8) (hf : ce + mc ≤ R.cells ∧ sl + ms ≤ R.slots) (d : decode cc pc = .ok (.invokestatic index, 3)) (kk : ∀ (rv : Option Value) (L' : List Nat) (F' : Nat → va_E), post rv L' F' → zW p l e R s m args below meth c nL G A Q (ce + mc) (sl + ms) (L') (F') (pc + 3) lv (rv.toList ++ st)) : zW p l e R s m args below meth c nL G A Q ce sl L F pc lv (As.reverse ++ st) := by
  refine z_after (a := As.toArray) C (fun H locs ls hP hD hS hl => ?_) kk
  exact va_runSN C.1 (hM H.size) cw ⟨zPre_blind, z_pre C hP hD hS _⟩ rfl hn hl.1 rfl (lv_room hst) d hf
theorem z_callI (C : zC p l s m args meth c cc nL Ts own ret G A) {y : MethodName} {ws : List Cond} {fr lo : Nat} {bytes : ByteArray} {maxL n index : Nat} {As : List Value} {b : Nat} (hM : zM l y ws fr lo mc ms G L F (.ref b :: As) post) (cw : CallB R s args own index y bytes maxL none ws { frames := fr, cells := mc, slots := ms, locals := lo } mc ms n ∧ y.name = "<init>" ∧ (Cond.instanceMethod y).before args s = true) (hn : As.length = n) (hst : (st.map fun v => v.category).sum ≤ 8) (hf : ce + mc ≤ R.cells ∧ sl + ms ≤ R.slots) (d : decode cc pc = .ok (.invokespecial index, 3)) (kk : ∀ (rv : Option Value) (L' : List Nat) (F' : Nat → va_E), post rv L' F' → zW p l e R s m args below meth c nL G A Q (ce + mc) (sl + ms) (L') (F') (pc + 3) lv (rv.toList ++ st)) : zW p l e R s m args below meth c nL G A Q ce sl L F pc lv (As.reverse ++ .ref b :: st) := by
  refine z_after (a := (Value.ref b :: As).toArray) C (fun H locs ls hP hD hS hl => ?_) kk
  exact va_runI C.1 (hM H.size) cw ⟨zPre_blind, z_pre C hP hD hS _⟩ rfl hn hl.1 rfl (lv_room hst) d hf
theorem z_callIN (C : zC p l s m args meth c cc nL Ts own ret G A) {y : MethodName} {ws : List Cond} {fr lo : Nat} {bytes : ByteArray} {maxL n index : Nat} {As : List Value} {host : String} {b : Nat} (hM : zM l y ws fr lo mc ms G L F (.ref b :: As) post) (cw : va_CN R s args own index y host bytes maxL none ws { frames := fr, cells := mc, slots := ms, locals := lo } mc ms n ∧ y.name = "<init>" ∧ (Cond.instanceMethod y).before args s = true) (hn : As.length = n) (hst : (st.map fun v => v.category).sum ≤ 8) (hf : ce + mc ≤ R.cells ∧ sl + ms ≤ R.slots) (d : decode cc pc = .ok (.invokespecial index, 3)) (kk : ∀ (rv : Option Value) (L' : List Nat) (F' : Nat → va_E), post rv L' F' → zW p l e R s m args below meth c nL G A Q (ce + mc) (sl + ms) (L') (F') (pc + 3) lv (rv.toList ++ st)) : zW p l e R s m args below meth c nL G A Q ce sl L F pc lv (As.reverse ++ .ref b :: st) := by
  refine z_after (a := (Value.ref b :: As).toArray) C (fun H locs ls hP hD hS hl => ?_) kk
  exact va_runIN C.1 (hM H.size) cw ⟨zPre_blind, z_pre C hP hD hS _⟩ rfl hn hl.1 rfl (lv_room hst) d hf
theorem z_nl (C : zC p l s m args meth c cc nL Ts own ret G A) {own9 host : String} {index : Nat} {y : MethodName} (h : (own9, index, y, host) ∈ zNestM) : va_Nw (.methodLinkNest own9 index y host) s := C.2.2.2.2.1.2.2.1 _ h
theorem z_mr {m : MethodId} {pc : Nat} {ls : Array Slot} {st st2 : List Value} {k n : Nat} (h : (st.map fun v => v.category).sum + k ≤ n) : 2 * (F0 m pc ls st2).monitorRoom + (st.map fun v => v.category).sum + k ≤ n := by
  have e : (F0 m pc ls st2).monitorRoom = 0 := rfl
  rw [e]; omega
theorem z_obj (C : zC p l s m args meth c cc nL Ts own ret G A) {a index : Nat} {T9 : List Cond} (hl9 : Cond.methodLink own index objectInit ∈ Ts) (hi9 : Cond.instanceMethod objectInit ∈ Ts) (hc9 : Cond.code objectInit ⟨#[0xb1]⟩ 1 none ∈ Ts) (hst : (st.map fun v => v.category).sum + 12 ≤ R.locals) (hfr : 1 ≤ R.frames) (d : decode cc pc = .ok (.invokespecial index, 3)) (kk : zW p l e R s m args below meth c nL G A Q ce sl L F (pc + 3) lv st) : zW p l e R s m args below meth c nL G A Q ce sl L F pc lv (.ref a :: st) := by
  intro H locs ls hP hD hS hl
  refine W.objInit C.1.1 C.1.2.1 C.1.2.2.2.1 (C.1.2.2.2.2 _ hl9) (C.1.2.2.2.2 _ hi9) (C.1.2.2.2.2 _ hc9) rfl (by rw [C.1.2.2.1]; exact hl.1) rfl d hfr (z_mr hst) ?_
  exact kk H locs ls hP hD hS hl
theorem z_min (C : zC p l s m args meth c cc nL Ts own ret G A) {index : Nat} {x y : Int32} (v : Int32) (h1 : Cond.methodLink own index Lib.Math.min.name ∈ Ts) (h2 : Cond.static Lib.Math.min.name ∈ Ts) (h3 : Cond.initialized "java/lang/Math" ∈ Ts) (h4 : Cond.code Lib.Math.min.name Lib.Math.min.code 2 (some .int) ∈ Ts) (hfr : 1 ≤ R.frames) (hlo : (st.map fun v => v.category).sum + 13 ≤ R.locals) (hc : ce ≤ R.cells) (hs : sl ≤ R.slots) (d : decode cc pc = .ok (.invokestatic index, 3)) (hv : (if y < x then y else x) = v) (kk : zW p l e R s m args below meth c nL G A Q ce sl L F (pc + 3) lv (.int v :: st)) : zW p l e R s m args below meth c nL G A Q ce sl L F pc lv (.int y :: .int x :: st) := fun H locs ls hP hD hS hl => va_mmin C.1.1 C.1.2.1 (C.1.2.2.1.trans hl.1.symm) C.1.2.2.2.1 (C.1.2.2.2.2 _ h1) (C.1.2.2.2.2 _ h2) (C.1.2.2.2.2 _ h3) (C.1.2.2.2.2 _ h4) hfr hlo hc hs d (by rw [hv]; exact kk H locs ls hP hD hS hl)
theorem z_max (C : zC p l s m args meth c cc nL Ts own ret G A) {index : Nat} {x y : Int32} (v : Int32) (h1 : Cond.methodLink own index Lib.Math.max.name ∈ Ts) (h2 : Cond.static Lib.Math.max.name ∈ Ts) (h3 : Cond.initialized "java/lang/Math" ∈ Ts) (h4 : Cond.code Lib.Math.max.name Lib.Math.max.code 2 (some .int) ∈ Ts) (hfr : 1 ≤ R.frames) (hlo : (st.map fun v => v.category).sum + 13 ≤ R.locals) (hc : ce ≤ R.cells) (hs : sl ≤ R.slots) (d : decode cc pc = .ok (.invokestatic index, 3)) (hv : (if x < y then y else x) = v) (kk : zW p l e R s m args below meth c nL G A Q ce sl L F (pc + 3) lv (.int v :: st)) : zW p l e R s m args below meth c nL G A Q ce sl L F pc lv (.int y :: .int x :: st) := fun H locs ls hP hD hS hl => va_mmax C.1.1 C.1.2.1 (C.1.2.2.1.trans hl.1.symm) C.1.2.2.2.1 (C.1.2.2.2.2 _ h1) (C.1.2.2.2.2 _ h2) (C.1.2.2.2.2 _ h3) (C.1.2.2.2.2 _ h4) hfr hlo hc hs d (by rw [hv]; exact kk H locs ls hP hD hS hl)
theorem z_newO (C : zC p l s m args meth c cc nL Ts own ret G A) {Cn : String} {T : u_T} {N ci index : Nat} {fs : List Value} (hin : ∀ w ∈ u_ws Cn T N, w ∈ Ts) (ty : Nat → FieldType) (hty : ∀ k, k < N → parseFieldDescriptor (T k).2.2.1 = some (ty k)) (h1 : Cond.classLink own index Cn ∈ Ts) (h2 : Cond.instantiable Cn N ∈ Ts) (h3 : Cond.initialized Cn ∈ Ts) (hc : vwCl[ci]? = some (Cn, T, N)) (hfs : ∀ j, j < N → defaultValue (ty j) = vp_V fs j) (hce : ce + 1 ≤ R.cells) (hsl : sl + N ≤ R.slots) (d : decode cc pc = .ok (.new index, 3)) (kk : ∀ (q : Nat) (F1 : Nat → va_E), q ∉ L → F1 q = .inr (ci, fs) → (∀ b, b ≠ q → F1 b = F b) → zW p l e R s m args below meth c nL G A Q (ce + 1) (sl + N) (L ++ [q]) F1 (pc + 3) lv (.ref q :: st)) : zW p l e R s m args below meth c nL G A Q ce sl L F pc lv st := by
  intro H locs ls hP hD hS hl
  refine va_new C.1.1 C.1.2.1 C.1.2.2.2.2 hin ty hty C.1.2.2.2.1 (C.1.2.2.2.2 _ h1) (C.1.2.2.2.2 _ h2) (C.1.2.2.2.2 _ h3) C.2.2.2.1 hP hD hS C.2.2.2.2.2.1 hc hfs hce hsl d (fun q H1 hP1 hD1 hS1 => ?_)
  have hq : q ∉ L := va_pl_fresh2 (X := []) hD1
  rw [va_pl_push hq] at hP1 hD1
  exact kk q _ hq (va_up_self _ _ _) (fun b hb => va_up_ne _ _ hb) H1 locs ls hP1 hD1 hS1 hl
theorem z_arrI {D : va_G} {U : State} {t1 : List (ClassId × FieldType)} {cA cB : ClassId} {ty : FieldType} (h1 : va_RA U cA ty) (h2 : va_RA U cB ty) : cA = cB := by
  cases ty with
  | object C =>
    obtain ⟨-, -, -, -, -, a4⟩ := h1
    obtain ⟨-, -, -, -, -, b4⟩ := h2
    exact Option.some.inj (a4.symm.trans b4)
  | _ => exact Option.some.inj (Eq.trans (Eq.symm h1) h2)
theorem z_newI (C : zC p l s m args meth c cc nL Ts own ret G A) {n : Nat} (hn : n < 2 ^ 20) (h1 : Cond.arrayClass .int ∈ Ts) (hce : ce + 1 ≤ R.cells) (hsl : sl + n ≤ R.slots) (d : decode cc pc = .ok (.newarray .int, 2)) (kk : ∀ (q : Nat) (F1 : Nat → va_E), q ∉ L → F1 q = .inl (G.2.1, n, .inl (fun _ => 0)) → (∀ b, b ≠ q → F1 b = F b) → zW p l e R s m args below meth c nL G A Q (ce + 1) (sl + n) (L ++ [q]) F1 (pc + 2) lv (.ref q :: st)) : zW p l e R s m args below meth c nL G A Q ce sl L F pc lv (.int (nI n) :: st) := by
  intro H locs ls hP hD hS hl
  refine va_newa (atype := .int) (ty := .int) (a0 := (n, .inl (fun _ => 0))) C.1.1 C.1.2.1 (C.1.2.2.2.2 _ h1) rfl C.2.2.2.1 hP hD hS C.2.2.2.2.2.1 (fun cA => rfl) (nI_pos (by omega)) (nI_clamp (by omega)) (by show n * _ ≤ _; first | (simp only [componentBytes]; omega) | omega) hce hsl d (fun q cA H1 hK1 hP1 hD1 hS1 => ?_)
  have hq : q ∉ L := va_pl_fresh2 (X := []) hD1
  have he : cA = G.2.1 := z_arrI (D := G.1) (t1 := []) (hK1.2 3 _ rfl).2 (hK1.2 0 _ rfl).2
  subst he
  rw [va_pl_push hq] at hP1 hD1
  exact kk q _ hq (va_up_self _ _ _) (fun b hb => va_up_ne _ _ hb) H1 locs ls hP1 hD1 hS1 hl
theorem z_p {rv0 : Option Value} {mc ms : Nat} (kk : zW p l e R s m args below meth c nL G A Q (ce + mc) (sl + ms) L F pc lv (rv0.toList ++ st)) : ∀ (rv : Option Value) (L' : List Nat) (F' : Nat → va_E), (rv = rv0 ∧ L' = L ∧ F' = F) → zW p l e R s m args below meth c nL G A Q (ce + mc) (sl + ms) (L') (F') pc lv (rv.toList ++ st) := by
  rintro _ _ _ ⟨rfl, rfl, rfl⟩
  exact kk
theorem z_pp {rv0 : Option Value} {P : Prop} {mc ms : Nat} (kk : P → zW p l e R s m args below meth c nL G A Q (ce + mc) (sl + ms) L F pc lv (rv0.toList ++ st)) : ∀ (rv : Option Value) (L' : List Nat) (F' : Nat → va_E), (rv = rv0 ∧ L' = L ∧ F' = F ∧ P) → zW p l e R s m args below meth c nL G A Q (ce + mc) (sl + ms) (L') (F') pc lv (rv.toList ++ st) := by
  rintro _ _ _ ⟨rfl, rfl, rfl, h⟩
  exact kk h
theorem z_xo (C : zC p l s m args meth c cc nL Ts own ret G A) (hout : ∀ x ∈ c.exceptionTable.toList, False) {px0 : zPx} (hc : ce ≤ mc) (hs : sl ≤ ms) (h : ∀ (E : String) (L' : List Nat) (F' : Nat → va_E), px0 E L' F' → px E L' F') : ∀ (E : String) (L' : List Nat) (F' : Nat → va_E), px0 E L' F' → zV p l e R s m args below meth c nL G A (vx_MQ below (zQ G post A) (zE G px A) args s mc ms A) E ce sl (L') (F') pc lv st := fun E L' F' hx => z_out C hout hc hs (h E L' F' hx)
theorem zi_N {n : Nat} (h : n < 2147483648) : (nI n).toInt = (n : Int) := nI_toInt (by omega)
theorem zi_0 : (0 : Int32).toInt = 0 := by decide
theorem zi_lt {x y : Int32} {A B : Int} (hx : x.toInt = A) (hy : y.toInt = B) : x < y ↔ A < B := by rw [← hx, ← hy]; exact Int32.lt_iff_toInt_lt
theorem zi_le {x y : Int32} {A B : Int} (hx : x.toInt = A) (hy : y.toInt = B) : x ≤ y ↔ A ≤ B := by rw [← hx, ← hy]; exact Int32.le_iff_toInt_le
theorem zi_eq {x y : Int32} {A B : Int} (hx : x.toInt = A) (hy : y.toInt = B) : x = y ↔ A = B := by rw [← hx, ← hy]; exact Int32.toInt_inj.symm
theorem zb_n {b : Nat} (h : b ≤ 1) : narrow .boolean (.int (nI b)) = .int (nI b) := by
  rcases (show b = 0 ∨ b = 1 by omega) with rfl | rfl <;> rfl
theorem zb_f {b : Nat} (h : b ≤ 1) : fits .boolean (.int (nI b)) = true := by
  rcases (show b = 0 ∨ b = 1 by omega) with rfl | rfl <;> rfl
def zk : va_E → Nat
  | .inl (_, _, .inl _) => 100
  | .inl (_, _, .inr (.inl _)) => 101
  | .inl _ => 102
  | .inr o => o.1
theorem zne {F : Nat → va_E} {a b : Nat} {e1 e2 : va_E} (h1 : F a = e1) (h2 : F b = e2) (h : Nat.beq (zk e1) (zk e2) = false) : a ≠ b := by
  intro q
  subst q
  exact Nat.ne_of_beq_eq_false h (by rw [← h1, ← h2])
end ZB
end
section
section ZBN
variable {p : Program} {l : Launch} {e : Env} {R : Room} {s : State} {m : MethodId} {args : Array Value} {below : List Frame} {meth : Method} {c : Code} {cc : ByteArray} {nL : Nat} {Ts : List Cond} {own : String} {ret : Option FieldType} {G : zGt} {A : Nat → Prop} {Q : State → Prop} {ce sl : Nat} {L : List Nat} {F : Nat → va_E} {pc : Nat} {lv : List (Nat × Value)} {st : List Value}
variable {mc ms : Nat} {post : zPt} {px : zPx}
theorem z_throwN (C : zC p l s m args meth c cc nL Ts own ret G A) {text : String} {ik is ic : Nat} (ho : own = RX2) (hk : Cond.classLink own ik "java/util/NoSuchElementException" ∈ Ts) (hini : Cond.initialized "java/util/NoSuchElementException" ∈ Ts) (hstr : (is, text) ∈ zStrs)
    (hat : ∀ w ∈ (zx_at own ic).filter goodWord, w ∈ Ts) (hbad : ∀ w ∈ (zx_at own ic).filter (fun w => !goodWord w), w ∈ zBad "java/util/NoSuchElementException") (hcst : ("java/util/NoSuchElementException", "java/util/NoSuchElementException") ∈ zCasts)
    (hgood : ∀ w ∈ Cond.classLink own ik "java/util/NoSuchElementException" :: Cond.initialized "java/util/NoSuchElementException" :: zx_at own ic, vx_ot w = true)
    (d0 : decode cc pc = .ok (.new ik, 3)) (d3 : decode cc (pc + 3) = .ok (.dup, 1)) (d4 : decode cc (pc + 4) = .ok (.ldc is, 2)) (d6 : decode cc (pc + 6) = .ok (.invokespecial ic, 3)) (d9 : decode cc (pc + 9) = .ok (.athrow, 1))
    (hout : ∀ x ∈ c.exceptionTable.toList, False) (hRf : 5 < R.frames) (hRl : (st.map fun v => v.category).sum + 82 ≤ R.locals) (hRc : ce + 1 ≤ R.cells) (hRs : sl + 6 ≤ R.slots) (hc : ce + 1 ≤ mc) (hs : sl + 6 ≤ ms) (h : px "java/util/NoSuchElementException" L F) : zW p l e R s m args below meth c nL G A (vx_MQ below (zQ G post A) (zE G px A) args s mc ms A) ce sl L F pc lv st := by
  intro H locs ls hP hD hS hl
  obtain ⟨sa, hsa⟩ := C.2.2.2.2.1.2.1 _ hstr
  subst ho
  have hb9 : ∀ w ∈ zBad "java/util/NoSuchElementException", w.before args s = true := by
    intro w hw
    rcases List.mem_cons.mp hw with rfl | hw
    · exact va_Nw.use rfl (C.2.2.2.2.1.2.2.2.2.1 _ hcst)
    · obtain ⟨q, hq, rfl⟩ := List.mem_map.mp hw
      exact va_Nw.use rfl (C.2.2.2.2.1.2.2.2.2.2.2.2.2.2 q hq)
  refine zx_throw C.1.1 C.1.2.1 C.2.2.2.2.2.2 C.1.2.2.2.1 (C.1.2.2.2.2 _ hk) (C.1.2.2.2.2 _ hini) hsa (vx_hat (fun w hw => C.1.2.2.2.2 w (hat w hw)) hbad hb9) hgood C.2.2.2.2.1.1.1 C.2.2.2.2.1.1.2.1 hS (hl.1.trans C.1.2.2.1.symm) d0 d3 d4 d6 d9 (fun x hx => (hout x hx).elim) hRf hRl hRc hRs C.2.2.1 ?_ hS.2.2 hc hs
  intro t hvm hz hk9
  refine ⟨⟨L, F, h, hP.kept (fun k q hq => hk9 _ ((hP k q hq).lt)), hD⟩, ?_⟩
  exact ⟨Nat.le_trans hS.1 hz, fun q h1 h2 => by rw [hk9 q (Nat.lt_of_lt_of_le h1 hS.1)]; exact hS.2.1 q h1 h2⟩
end ZBN
end
section
section ZD
variable {p : Program} {l : Launch} {e : Env} {R : Room} {s : State} {m : MethodId} {args : Array Value} {below : List Frame} {meth : Method} {c : Code} {cc : ByteArray} {nL : Nat} {Ts : List Cond} {own : String} {ret : Option FieldType} {G : zGt} {A : Nat → Prop} {Q : State → Prop} {ce sl : Nat} {L : List Nat} {F : Nat → va_E} {pc : Nat} {lv : List (Nat × Value)} {st : List Value}
theorem z_gets (C : zC p l s m args meth c cc nL Ts own ret G A) {index : Nat} (hlink : Cond.fieldLink own index "java/util/ArrayList" "DEFAULTCAPACITY_EMPTY_ELEMENTDATA" "[Ljava/lang/Object;" ∈ Ts) (d : decode cc pc = .ok (.getstatic index, 3)) (kk : zW p l e R s m args below meth c nL G A Q ce sl L F (pc + 3) lv (.ref G.2.2.2.2.1 :: st)) : zW p l e R s m args below meth c nL G A Q ce sl L F pc lv st := fun H locs ls hP hD hS hl => va_gets C.1.1 C.1.2.1 C.2.2.2.2.1.1.2.2.1 hS C.1.2.2.2.1 (C.1.2.2.2.2 _ hlink) (fun _ h9 => h9) d (kk H locs ls hP hD hS hl)
theorem z_tlen (C : zC p l s m args meth c cc nL Ts own ret G A) (d : decode cc pc = .ok (.arraylength, 1)) (kk : zW p l e R s m args below meth c nL G A Q ce sl L F (pc + 1) lv (.int (nI 0) :: st)) : zW p l e R s m args below meth c nL G A Q ce sl L F pc lv (.ref G.2.2.2.2.1 :: st) := fun H locs ls hP hD hS hl => va_tlen C.1.1 C.1.2.1 C.2.2.2.2.1.1.2.2.2 hS rfl d (kk H locs ls hP hD hS hl)
theorem z_alenq (C : zC p l s m args meth c cc nL Ts own ret G A) {a n : Nat} {f : Nat → Option Nat} (hL : a ∈ L) (hF : F a = .inl (G.2.2.1, n, .inr (.inr (.inr (.inr f))))) (d : decode cc pc = .ok (.arraylength, 1)) (kk : zW p l e R s m args below meth c nL G A Q ce sl L F (pc + 1) lv (.int (nI n) :: st)) : zW p l e R s m args below meth c nL G A Q ce sl L F pc lv (.ref a :: st) := fun H locs ls hP hD hS hl => by
  obtain ⟨q0, hq⟩ := zAt hL hF
  exact va_alen C.1.1 C.1.2.1 C.2.2.2.1 hP q0 1 hq rfl rfl d (kk H locs ls hP hD hS hl)
theorem z_acmp_eqT (C : zC p l s m args meth c cc nL Ts own ret G A) {x y : Nat} {off : Int} (tgt : Nat) (h : x = y) (d : decode cc pc = .ok (.if_acmp .eq off, 3)) (ht : (pc : Int) + off = (tgt : Int)) (kk : zW p l e R s m args below meth c nL G A Q ce sl L F tgt lv st) : zW p l e R s m args below meth c nL G A Q ce sl L F pc lv (.ref y :: .ref x :: st) := fun H locs ls hP hD hS hl => lv_acmp_eq (rx := some x) (ry := some y) C.1.1 C.1.2.1 d ht (fun _ => kk H locs ls hP hD hS hl) (fun q => absurd (congrArg some h) q)
theorem z_acmp_eqF (C : zC p l s m args meth c cc nL Ts own ret G A) {x y : Nat} {off : Int} (tgt : Nat) (h : ¬ x = y) (d : decode cc pc = .ok (.if_acmp .eq off, 3)) (ht : (pc : Int) + off = (tgt : Int)) (kk : zW p l e R s m args below meth c nL G A Q ce sl L F (pc + 3) lv st) : zW p l e R s m args below meth c nL G A Q ce sl L F pc lv (.ref y :: .ref x :: st) := fun H locs ls hP hD hS hl => lv_acmp_eq (rx := some x) (ry := some y) C.1.1 C.1.2.1 d ht (fun q => absurd (Option.some.inj q) h) (fun _ => kk H locs ls hP hD hS hl)
theorem z_acmp_neT (C : zC p l s m args meth c cc nL Ts own ret G A) {x y : Nat} {off : Int} (tgt : Nat) (h : ¬ x = y) (d : decode cc pc = .ok (.if_acmp .ne off, 3)) (ht : (pc : Int) + off = (tgt : Int)) (kk : zW p l e R s m args below meth c nL G A Q ce sl L F tgt lv st) : zW p l e R s m args below meth c nL G A Q ce sl L F pc lv (.ref y :: .ref x :: st) := fun H locs ls hP hD hS hl => lv_acmp_ne (rx := some x) (ry := some y) C.1.1 C.1.2.1 d ht (fun _ => kk H locs ls hP hD hS hl) (fun q => absurd (Option.some.inj q) h)
theorem z_acmp_neF (C : zC p l s m args meth c cc nL Ts own ret G A) {x y : Nat} {off : Int} (tgt : Nat) (h : x = y) (d : decode cc pc = .ok (.if_acmp .ne off, 3)) (ht : (pc : Int) + off = (tgt : Int)) (kk : zW p l e R s m args below meth c nL G A Q ce sl L F (pc + 3) lv st) : zW p l e R s m args below meth c nL G A Q ce sl L F pc lv (.ref y :: .ref x :: st) := fun H locs ls hP hD hS hl => lv_acmp_ne (rx := some x) (ry := some y) C.1.1 C.1.2.1 d ht (fun q => absurd (congrArg some h) q) (fun _ => kk H locs ls hP hD hS hl)
theorem z_any (C : zC p l s m args meth c cc nL Ts own ret G A) {H : Heap} {v : Nat} {fs : List Value} (hP : va_P G.1 vwCl (va_pl L F) H) (hv : v ∈ L) (hFv : F v = .inr (1, fs)) : va_Any "java/lang/Object" s H v := by
  obtain ⟨q0, hq⟩ := zAt hv hFv
  exact va_rAny C.2.2.2.1 hP hq (r := (RX0, TX0, 7)) rfl (vb_asgC (C.2.2.2.2.1.2.2.2.2.1 (RX0, "java/lang/Object") (by decide +kernel)))
theorem z_astq (C : zC p l s m args meth c cc nL Ts own ret G A) {a n i v : Nat} {f : Nat → Option Nat} {fs : List Value} (hL : a ∈ L) (hF : F a = .inl (G.2.2.1, n, .inr (.inr (.inr (.inr f))))) (hi : i < n) (hn : n < 2 ^ 31) (hv : v ∈ L) (hFv : F v = .inr (1, fs)) (d : decode cc pc = .ok (.aastore, 1)) (kk : ∀ F1 : Nat → va_E, F1 a = .inl (G.2.2.1, n, .inr (.inr (.inr (.inr (va_up f i (some v)))))) → (∀ b, b ≠ a → F1 b = F b) → zW p l e R s m args below meth c nL G A Q ce sl L F1 (pc + 1) lv st) : zW p l e R s m args below meth c nL G A Q ce sl L F pc lv (.ref v :: .int (nI i) :: .ref a :: st) := fun H locs ls hP hD hS hl => by
  obtain ⟨q0, hq⟩ := zAt hL hF
  refine va_astqM C.1.1 C.1.2.1 C.2.2.2.1 hP hD hS q0 1 hq rfl (z_any C hP hv hFv) (vp_in_nI hi hn) d (fun H1 locs1 hP1 hD1 hS1 => ?_)
  rw [zSt hD hL hF hq, nI_clamp (by omega)] at hP1 hD1
  exact kk _ (va_up_self _ _ _) (fun b hb => va_up_ne _ _ hb) H1 locs1 ls hP1 hD1 hS1 hl
theorem z_newq (C : zC p l s m args meth c cc nL Ts own ret G A) {n index : Nat} (hn : n < 2 ^ 20) (h1 : Cond.classLink own index "java/lang/Object" ∈ Ts) (hce : ce + 1 ≤ R.cells) (hsl : sl + n ≤ R.slots) (d : decode cc pc = .ok (.anewarray index, 3)) (kk : ∀ (q : Nat) (F1 : Nat → va_E), q ∉ L → F1 q = .inl (G.2.2.1, n, .inr (.inr (.inr (.inr (fun _ => none))))) → (∀ b, b ≠ q → F1 b = F b) → zW p l e R s m args below meth c nL G A Q (ce + 1) (sl + n) (L ++ [q]) F1 (pc + 3) lv (.ref q :: st)) : zW p l e R s m args below meth c nL G A Q ce sl L F pc lv (.int (nI n) :: st) := by
  intro H locs ls hP hD hS hl
  refine va_newq C.1.1 C.1.2.1 C.1.2.2.2.1 (C.1.2.2.2.2 _ h1) C.2.2.2.2.1.2.2.2.2.2.2.1 C.2.2.2.1 hP hD hS C.2.2.2.2.2.1 (nI_pos (by omega)) (nI_clamp (by omega)) (by omega) hce hsl d (fun q cA H1 hK1 hP1 hD1 hS1 => ?_)
  have hq : q ∉ L := va_pl_fresh2 (X := []) hD1
  have he : cA = G.2.2.1 := z_arrI (D := G.1) (t1 := []) (hK1.2 3 _ rfl).2 (hK1.2 1 _ rfl).2
  subst he
  rw [va_pl_push hq] at hP1 hD1
  exact kk q _ hq (va_up_self _ _ _) (fun b hb => va_up_ne _ _ hb) H1 locs ls hP1 hD1 hS1 hl
theorem z_getC (C : zC p l s m args meth c cc nL Ts own ret G A) {a n index : Nat} {f : Nat → Option Nat} (hL : a ∈ L) (hF : F a = .inl (G.2.2.1, n, .inr (.inr (.inr (.inr f))))) (h1 : Cond.methodLink own index ⟨"java/lang/Object", "getClass", "()Ljava/lang/Class;"⟩ ∈ Ts) (h3 : Cond.selects "[Ljava/lang/Object;" ⟨"java/lang/Object", "getClass", "()Ljava/lang/Class;"⟩ ⟨"java/lang/Object", "getClass", "()Ljava/lang/Class;"⟩ ∈ Ts) (h4 : Cond.instanceMethod ⟨"java/lang/Object", "getClass", "()Ljava/lang/Class;"⟩ ∈ Ts) (h5 : Cond.native ⟨"java/lang/Object", "getClass", "()Ljava/lang/Class;"⟩ ∈ Ts) (hfr : 1 ≤ R.frames) (hlo : (st.map fun v => v.category).sum + 14 ≤ R.locals) (d : decode cc pc = .ok (.invokevirtual index, 3)) (kk : zW p l e R s m args below meth c nL G A Q ce sl L F (pc + 3) lv (.ref G.2.2.2.2.2 :: st)) : zW p l e R s m args below meth c nL G A Q ce sl L F pc lv (.ref a :: st) := fun H locs ls hP hD hS hl => by
  obtain ⟨q0, hq⟩ := zAt hL hF
  refine va_getC (C := "[Ljava/lang/Object;") C.1.1 C.1.2.1 (C.1.2.2.1.trans hl.1.symm) C.1.2.2.2.1 (C.1.2.2.2.2 _ h1) (va_Dc.use C.2.2.2.2.1.2.2.2.2.2.2.2.2.1) (C.1.2.2.2.2 _ h3) (C.1.2.2.2.2 _ h4) (C.1.2.2.2.2 _ h5) C.2.2.2.2.1.2.2.2.2.2.2.2.1 ⟨_, hP q0 _ hq, rfl, va_nmO (C.2.2.2.1.2 1 _ rfl).2 (by decide +kernel)⟩ hfr hlo d (kk H locs ls hP hD hS hl)
theorem z_ldcM (C : zC p l s m args meth c cc nL Ts own ret G A) {index : Nat} (h1 : Cond.classLink own index "[Ljava/lang/Object;" ∈ Ts) (d : decode cc pc = .ok (.ldc index, 2)) (kk : zW p l e R s m args below meth c nL G A Q ce sl L F (pc + 2) lv (.ref G.2.2.2.2.2 :: st)) : zW p l e R s m args below meth c nL G A Q ce sl L F pc lv st := fun H locs ls hP hD hS hl => va_ldcM C.1.1 C.1.2.1 C.1.2.2.2.1 (C.1.2.2.2.2 _ h1) C.2.2.2.2.1.2.2.2.2.2.2.2.1 d (kk H locs ls hP hD hS hl)
theorem z_ldcI (C : zC p l s m args meth c cc nL Ts own ret G A) {index : Nat} (v : Int32) (h1 : Cond.constant own index v ∈ Ts) (d : decode cc pc = .ok (.ldc index, 2)) (kk : zW p l e R s m args below meth c nL G A Q ce sl L F (pc + 2) lv (.int v :: st)) : zW p l e R s m args below meth c nL G A Q ce sl L F pc lv st := fun H locs ls hP hD hS hl => lv_ldc C.1.1 C.1.2.1 C.1.2.2.2.1 (C.1.2.2.2.2 _ h1) d (kk H locs ls hP hD hS hl)
theorem z_copyq (C : zC p l s m args meth c cc nL Ts own ret G A) {a0 a n0 n1 n index : Nat} {f g : Nat → Option Nat} (hL0 : a0 ∈ L) (hF0 : F a0 = .inl (G.2.2.1, n0, .inr (.inr (.inr (.inr f))))) (hL : a ∈ L) (hF : F a = .inl (G.2.2.1, n1, .inr (.inr (.inr (.inr g))))) (hn0 : n ≤ n0) (hn1 : n ≤ n1) (hn : n < 2 ^ 20) (hel : ∀ i, i < n → ∀ y, f i = some y → y ∈ L ∧ ∃ fs, F y = .inr (1, fs)) (h1 : Cond.methodLink own index arraycopyName ∈ Ts) (h2 : Cond.native arraycopyName ∈ Ts) (h3 : Cond.static arraycopyName ∈ Ts) (h4 : Cond.initialized "java/lang/System" ∈ Ts) (hfr : 1 ≤ R.frames) (hlo : (st.map fun v => v.category).sum + (nativeFrameWords "java/lang/System" "arraycopy" 5 + 11) ≤ R.locals) (d : decode cc pc = .ok (.invokestatic index, 3)) (kk : ∀ F1 : Nat → va_E, F1 a = .inl (G.2.2.1, n1, .inr (.inr (.inr (.inr (va_cpy f g 0 0 n))))) → (∀ b, b ≠ a → F1 b = F b) → zW p l e R s m args below meth c nL G A Q ce sl L F1 (pc + 3) lv st) : zW p l e R s m args below meth c nL G A Q ce sl L F pc lv (.int (nI n) :: .int (nI 0) :: .ref a :: .int (nI 0) :: .ref a0 :: st) := fun H locs ls hP hD hS hl => by
  obtain ⟨q0, hq0⟩ := zAt hL0 hF0
  obtain ⟨q1, hq1⟩ := zAt hL hF
  have e0 : (nI 0).toNatClampNeg = 0 := nI_clamp (by decide)
  have en : (nI n).toNatClampNeg = n := nI_clamp (by omega)
  refine va_copyM C.1.1 C.1.2.1 (C.1.2.2.1.trans hl.1.symm) C.1.2.2.2.1 (C.1.2.2.2.2 _ h1) (C.1.2.2.2.2 _ h2) (C.1.2.2.2.2 _ h3) (C.1.2.2.2.2 _ h4) C.2.2.2.1 hP hD hS q0 q1 1 1 hq0 hq1 rfl rfl (nI_pos (by decide)) (nI_pos (by decide)) (nI_pos (by omega)) (by rw [e0, en]; omega) (by rw [e0, en]; omega) (fun i hi y hy => ?_) hfr hlo d (fun H1 locs1 hP1 hD1 hS1 => ?_)
  · rw [en] at hi
    rw [e0, Nat.zero_add] at hy
    obtain ⟨g1, fs, g2⟩ := hel i hi y hy
    exact z_any C hP g1 g2
  · rw [zSt hD hL hF hq1, e0, en] at hP1 hD1
    exact kk _ (va_up_self _ _ _) (fun b hb => va_up_ne _ _ hb) H1 locs1 ls hP1 hD1 hS1 hl
theorem z_null (C : zC p l s m args meth c cc nL Ts own ret G A) (d : decode cc pc = .ok (.aconst_null, 1)) (kk : zW p l e R s m args below meth c nL G A Q ce sl L F (pc + 1) lv (.null :: st)) : zW p l e R s m args below meth c nL G A Q ce sl L F pc lv st := fun H locs ls hP hD hS hl => lv_null C.1.1 C.1.2.1 d (kk H locs ls hP hD hS hl)
theorem z_castX0 (C : zC p l s m args meth c cc nL Ts own ret G A) {a index : Nat} {fs : List Value} (hL : a ∈ L) (hF : F a = .inr (1, fs)) (h1 : Cond.classLink own index RX0 ∈ Ts) (d : decode cc pc = .ok (.checkcast index, 3)) (kk : zW p l e R s m args below meth c nL G A Q ce sl L F (pc + 3) lv (.ref a :: st)) : zW p l e R s m args below meth c nL G A Q ce sl L F pc lv (.ref a :: st) := fun H locs ls hP hD hS hl => by
  obtain ⟨q0, hq⟩ := zAt hL hF
  exact va_castY (C := RX0) C.1.1 C.1.2.1 C.1.2.2.2.1 (C.1.2.2.2.2 _ h1) (C.2.2.2.2.1.2.2.2.2.1 (RX0, RX0) (by decide +kernel)) (va_recv C.2.2.2.1 hP (q := (RX0, TX0, 7)) rfl hq) d (kk H locs ls hP hD hS hl)
end ZD
end
section
-- numbers of a feeder
def tkV (mw of co : Nat) : Nat := if of = 0 then mw * (100 + co) / 100 else 0
def crV (th : Nat) : Nat := if th ≤ 10 then 10 * th else 100
def rsV (mw of th co : Nat) : Nat := if of = 0 then mw * (100 + co) / 100 else mw * (100 + crV th) / 100
theorem crV_le (th : Nat) : crV th ≤ 100 := by
  unfold crV; split <;> omega
theorem crV_min {th : Nat} (h : th ≤ 60000) : (if nI (10 * th) < nI 100 then nI (10 * th) else nI 100) = nI (crV th) := by
  unfold crV
  by_cases c : 10 * th < 100
  · rw [if_pos ((nI_ltI (by omega) (by decide)).mpr c), if_pos (by omega)]
  · rw [if_neg (fun q => c ((nI_ltI (by omega) (by decide)).mp q))]
    by_cases d : th ≤ 10
    · rw [if_pos d, show 10 * th = 100 by omega]
    · rw [if_neg d]
theorem mx_sub {a b : Nat} (ha : a ≤ 1000) (hb : b ≤ 2000) : (if nI 0 < nI a - nI b then nI a - nI b else nI 0) = nI (a - b) := by
  by_cases c : b < a
  · rw [pk_sub (a := a) (b := b) (by omega), if_pos ((nI_ltI (by decide) (by omega)).mpr (by omega))]
  · have e : (nI a - nI b).toInt = (a : Int) - b := pk_sub_toInt (by omega) (by omega)
    rw [if_neg (fun q => by
      have := (zi_lt (A := 0) (by decide) e).mp q
      omega), show a - b = 0 by omega]
-- the search: keys, weighing, walking
def keyV (nl t h s : Nat) : Nat := if t ≤ nl then (h * 1048576 + t) * 4096 + s else 4503599627370496 + ((t * 1048576 + h) * 4096 + s)
abbrev Tri : Type := Nat × Nat × Nat
def wgV (nl : Nat) (x b : Tri) : Tri := if b.1 = 0 ∨ keyV nl x.2.1 x.2.2 x.1 < keyV nl b.2.1 b.2.2 b.1 then x else b
def smV (tk : Nat → Nat) : Nat → Nat
  | 0 => 0
  | n + 1 => smV tk n + tk n
def adV (x y : Tri) : Tri := (x.1 + y.1, x.2.1 + y.2.1, x.2.2 + y.2.2)
def elV (nu tk hr : Nat → Nat) (i : Nat) : Tri := (2 ^ nu i, tk i, hr i)
def wkV (nl sf : Nat) (nu tk hr : Nat → Nat) : Nat → Tri → Tri → Tri
  | 0, x, b => if sf ≤ x.2.1 then wgV nl x b else b
  | o + 1, x, b => if sf ≤ x.2.1 then wgV nl x b else if x.2.1 + smV tk (o + 1) < sf then b else wkV nl sf nu tk hr o (adV x (elV nu tk hr o)) (wkV nl sf nu tk hr o x b)
theorem wkV_meet {nl sf : Nat} {nu tk hr : Nat → Nat} {o : Nat} {x b : Tri} (h : sf ≤ x.2.1) : wkV nl sf nu tk hr o x b = wgV nl x b := by
  cases o with
  | zero => rw [wkV, if_pos h]
  | succ o => rw [wkV, if_pos h]
theorem wkV_cut {nl sf : Nat} {nu tk hr : Nat → Nat} {o : Nat} {x b : Tri} (h : ¬ sf ≤ x.2.1) (h2 : o = 0 ∨ x.2.1 + smV tk o < sf) : wkV nl sf nu tk hr o x b = b := by
  cases o with
  | zero => rw [wkV, if_neg h]
  | succ o => rw [wkV, if_neg h, if_pos (by rcases h2 with h2 | h2; exact absurd h2 (by omega); exact h2)]
theorem wkV_go {nl sf : Nat} {nu tk hr : Nat → Nat} {o : Nat} {x b : Tri} (h : ¬ sf ≤ x.2.1) (ho : 0 < o) (h2 : ¬ x.2.1 + smV tk o < sf) : wkV nl sf nu tk hr o x b = wkV nl sf nu tk hr (o - 1) (adV x (elV nu tk hr (o - 1))) (wkV nl sf nu tk hr (o - 1) x b) := by
  cases o with
  | zero => exact absurd ho (Nat.lt_irrefl _)
  | succ o => rw [wkV, if_neg h, if_neg h2]; rfl
def bdV (b : Tri) : Prop := b.1 < 4096 ∧ b.2.1 < 1048576 ∧ b.2.2 < 1048576
theorem bdV_wg {nl : Nat} {x b : Tri} (hx : bdV x) (hb : bdV b) : bdV (wgV nl x b) := by
  unfold wgV; split
  · exact hx
  · exact hb
-- what the walk asks of the offered: o of them, from a set s
def wkOk (nu tk hr : Nat → Nat) (cnt : Nat) : Prop := cnt ≤ 12 ∧ (∀ i, i < cnt → nu i < 12 ∧ tk i ≤ 1998 ∧ hr i ≤ 60000) ∧ ∀ i j, i < j → j < cnt → nu i < nu j
def xOk (nu : Nat → Nat) (o : Nat) (x : Tri) : Prop := (∀ i, i < o → 2 ^ (nu i + 1) ∣ x.1) ∧ x.1 < 4096 ∧ x.2.1 + o * 1998 ≤ 24000 ∧ x.2.2 + o * 60000 ≤ 720000
theorem xOk.bd {nu : Nat → Nat} {o : Nat} {x : Tri} (h : xOk nu o x) : bdV x := by
  obtain ⟨h1, h2, h3, h4⟩ := h
  refine ⟨h2, ?_, ?_⟩ <;> omega
theorem xOk.stay {nu : Nat → Nat} {o : Nat} {x : Tri} (h : xOk nu o x) : xOk nu (o - 1) x := by
  obtain ⟨h1, h2, h3, h4⟩ := h
  refine ⟨fun i hi => h1 i (by omega), h2, ?_, ?_⟩
  · have : (o - 1) * 1998 ≤ o * 1998 := Nat.mul_le_mul_right _ (by omega)
    exact Nat.le_trans (Nat.add_le_add_left this _) h3
  · have : (o - 1) * 60000 ≤ o * 60000 := Nat.mul_le_mul_right _ (by omega)
    exact Nat.le_trans (Nat.add_le_add_left this _) h4
theorem or_pow {s k : Nat} (h : 2 ^ (k + 1) ∣ s) : s ||| 2 ^ k = s + 2 ^ k := by
  obtain ⟨q, rfl⟩ := h
  exact (Nat.two_pow_add_eq_or_of_lt (Nat.pow_lt_pow_right (by decide) (Nat.lt_succ_self k)) q).symm
theorem xOk.go {nu tk hr : Nat → Nat} {cnt o : Nat} {x : Tri} (hk : wkOk nu tk hr cnt) (ho : 0 < o) (hc : o ≤ cnt) (h : xOk nu o x) : xOk nu (o - 1) (adV x (elV nu tk hr (o - 1))) := by
  have h1 := h.1 (o - 1) (by omega)
  have hb := hk.2.1 (o - 1) (by omega)
  refine ⟨fun i hi => ?_, ?_, ?_, ?_⟩
  · have hlt : nu i < nu (o - 1) := hk.2.2 i (o - 1) hi (by omega)
    exact Nat.dvd_add (h.1 i (by omega)) (Nat.pow_dvd_pow 2 hlt)
  · show x.1 + 2 ^ nu (o - 1) < 4096
    have hlt := h.2.1
    have e : (4096 : Nat) = 2 ^ (nu (o - 1) + 1) * 2 ^ (11 - nu (o - 1)) := by
      rw [← Nat.pow_add, show nu (o - 1) + 1 + (11 - nu (o - 1)) = 12 by omega]
    obtain ⟨q, hq⟩ := h1
    have hq2 : q < 2 ^ (11 - nu (o - 1)) := by
      rw [hq, e] at hlt
      exact Nat.lt_of_mul_lt_mul_left hlt
    have hp : 2 ^ (nu (o - 1) + 1) * (q + 1) ≤ 4096 := by rw [e]; exact Nat.mul_le_mul_left _ hq2
    rw [Nat.mul_succ, ← hq, Nat.pow_succ] at hp
    have : 0 < 2 ^ nu (o - 1) := Nat.pow_pos (by decide)
    omega
  · have := h.2.2.1
    show x.2.1 + tk (o - 1) + (o - 1) * 1998 ≤ 24000
    omega
  · have := h.2.2.2
    show x.2.2 + hr (o - 1) + (o - 1) * 60000 ≤ 720000
    omega
theorem bdV_wk {nl sf : Nat} {nu tk hr : Nat → Nat} {cnt : Nat} (hk : wkOk nu tk hr cnt) : ∀ (o : Nat) (x b : Tri), o ≤ cnt → xOk nu o x → bdV b → bdV (wkV nl sf nu tk hr o x b) := by
  intro o
  induction o with
  | zero =>
    intro x b _ hx hb
    rw [wkV]; split
    · exact bdV_wg hx.bd hb
    · exact hb
  | succ o ih =>
    intro x b ho hx hb
    rw [wkV]; split
    · exact bdV_wg hx.bd hb
    · split
      · exact hb
      · exact ih _ _ (by omega) (hx.go hk (Nat.succ_pos o) ho) (ih _ _ (by omega) hx.stay hb)
theorem smV_le {tk : Nat → Nat} {B : Nat} : ∀ {n : Nat}, (∀ i, i < n → tk i ≤ B) → smV tk n ≤ n * B
  | 0, _ => by simp [smV]
  | n + 1, h => by
    have h1 := smV_le (n := n) (fun i hi => h i (by omega))
    have h2 := h n (by omega)
    rw [smV, Nat.succ_mul]; omega
theorem shl1 {n : Nat} (h : n < 31) : nI 1 <<< (nI n &&& 31) = nI (2 ^ n) := by
  have e : ∀ k, k < 31 → (nI 1 <<< (nI k &&& 31)) = nI (2 ^ k) := by decide +kernel
  exact e n h
theorem nI_or (a b : Nat) : nI a ||| nI b = nI (a ||| b) := by
  apply Int32.toBitVec_inj.1
  show BitVec.ofNat 32 a ||| BitVec.ofNat 32 b = BitVec.ofNat 32 (a ||| b)
  apply BitVec.eq_of_getLsbD_eq
  intro i hi
  simp [hi]
-- the search by listing
def bitV (s k : Nat) : Nat := s / 2 ^ k % 2
theorem bitV_le (s k : Nat) : bitV s k ≤ 1 := by unfold bitV; omega
def trV (nu tk hr : Nat → Nat) (c : Nat) : Nat → Tri
  | 0 => (0, 0, 0)
  | i + 1 => if bitV c i = 1 then adV (trV nu tk hr c i) (elV nu tk hr i) else trV nu tk hr c i
def lsV (nl sf : Nat) (nu tk hr : Nat → Nat) (cnt c : Nat) (b : Tri) : Tri := if sf ≤ (trV nu tk hr c cnt).2.1 then wgV nl (trV nu tk hr c cnt) b else b
def blV (nl sf : Nat) (nu tk hr : Nat → Nat) (cnt : Nat) (b : Tri) : Nat → Tri
  | 0 => b
  | j + 1 => lsV nl sf nu tk hr cnt (j + 1) (blV nl sf nu tk hr cnt b j)
theorem trV_lt {nu tk hr : Nat → Nat} {cnt c : Nat} (hk : wkOk nu tk hr cnt) : ∀ (i m : Nat), i ≤ cnt → (∀ j, j < i → nu j < m) → (trV nu tk hr c i).1 < 2 ^ m := by
  intro i
  induction i with
  | zero => intro m _ _; exact Nat.pow_pos (by decide)
  | succ i ih =>
    intro m hi hm
    have h1 := ih (nu i) (by omega) (fun j hj => hk.2.2 j i hj (by omega))
    have h2 : 2 ^ (nu i + 1) ≤ 2 ^ m := Nat.pow_le_pow_right (by decide) (hm i (by omega))
    rw [Nat.pow_succ] at h2
    rw [trV]; split
    · show (trV nu tk hr c i).1 + 2 ^ nu i < 2 ^ m
      omega
    · omega
set_option maxRecDepth 100000 in
theorem trV_bd {nu tk hr : Nat → Nat} {cnt c : Nat} (hk : wkOk nu tk hr cnt) : ∀ (i : Nat), i ≤ cnt → (trV nu tk hr c i).2.1 ≤ i * 1998 ∧ (trV nu tk hr c i).2.2 ≤ i * 60000 := by
  intro i
  induction i with
  | zero => intro _; exact ⟨Nat.le_refl _, Nat.le_refl _⟩
  | succ i ih =>
    intro hi
    have h1 := ih (by omega)
    have h2 := hk.2.1 i (by omega)
    rw [trV]; split
    · refine ⟨?_, ?_⟩
      · show (trV nu tk hr c i).2.1 + tk i ≤ _
        omega
      · show (trV nu tk hr c i).2.2 + hr i ≤ _
        omega
    · omega
theorem trV_ok {nu tk hr : Nat → Nat} {cnt c : Nat} (hk : wkOk nu tk hr cnt) : bdV (trV nu tk hr c cnt) := by
  have h1 := trV_lt (c := c) hk cnt 12 (Nat.le_refl _) (fun j hj => (hk.2.1 j hj).1)
  have h2 := trV_bd (c := c) hk cnt (Nat.le_refl _)
  have h3 := hk.1
  refine ⟨h1, ?_, ?_⟩
  · have : cnt * 1998 ≤ 12 * 1998 := Nat.mul_le_mul_right _ h3
    omega
  · have : cnt * 60000 ≤ 12 * 60000 := Nat.mul_le_mul_right _ h3
    omega
theorem bdV_ls {nl sf : Nat} {nu tk hr : Nat → Nat} {cnt c : Nat} {b : Tri} (hk : wkOk nu tk hr cnt) (hb : bdV b) : bdV (lsV nl sf nu tk hr cnt c b) := by
  unfold lsV; split
  · exact bdV_wg (trV_ok hk) hb
  · exact hb
theorem bdV_bl {nl sf : Nat} {nu tk hr : Nat → Nat} {cnt : Nat} {b : Tri} (hk : wkOk nu tk hr cnt) (hb : bdV b) : ∀ j, bdV (blV nl sf nu tk hr cnt b j)
  | 0 => hb
  | j + 1 => bdV_ls hk (bdV_bl hk hb j)
theorem or_low {s k : Nat} (h : s < 2 ^ k) : s ||| 2 ^ k = s + 2 ^ k := by
  have := Nat.two_pow_add_eq_or_of_lt h 1
  rw [Nat.mul_one] at this
  rw [Nat.or_comm, ← this, Nat.add_comm]
theorem sh_amt : ∀ n, n < 32 → ((nI n &&& 31).toBitVec.smod 32).toNat = n := by decide +kernel
theorem bit_of {s k : Nat} (hs : s < 2147483648) (hk : k < 31) : nI s >>> (nI k &&& 31) = nI (s / 2 ^ k) := pk_shrN (by omega) _ k (sh_amt k (by omega))
theorem bit_and {s : Nat} (k : Nat) (hs : s < 2147483648) : nI (s / 2 ^ k) &&& nI 1 = nI (bitV s k) :=
  pk_andN (Nat.lt_of_le_of_lt (Nat.div_le_self _ _) (by omega)) 1 (by decide)
end
section
set_option maxRecDepth 100000 in
theorem hin_X0_withCold_X0 : ∀ w ∈ u_ws RX0 TX0 7, w ∈ wsX0_withCold := by decide +kernel
set_option maxHeartbeats 4000000 in
set_option maxRecDepth 100000 in
theorem c_X0_withCold (l : Launch) (hlst : l.stackTraces = false) (G : zGt) (L : List Nat) (F : Nat → va_E) (h0 : Nat) (sg mw cr of ho th co : Nat) (hL0 : h0 ∈ L) (hF0 : F h0 = .inr (1, [.int (nI sg), .int (nI mw), .int (nI cr), .int (nI of), .int (nI ho), .int (nI th), .int (nI co)])) (pt : Nat) (hmw : mw ≤ 999) (hpt : pt ≤ 100) : zM l yX0_withCold wsX0_withCold 1 24 0 0 G L F [.ref h0, .int (nI pt)] (fun rv L1 F1 => rv = some (.int (nI (mw * (100 + pt) / 100))) ∧ L1 = L ∧ F1 = F) := by
  have hb9 : mw * (100 + pt) ≤ 999 * 200 := Nat.mul_le_mul hmw (by omega)
  refine z_of (cc := cX0_withCold) (nL := 2) (ret := (some .int)) (own := RX0) hlst (by decide +kernel) rfl rfl (Nat.le_of_ble_eq_true rfl) ?_
  intro p e s m below meth c A hnm C
  refine z_lvs (lv' := [(0, .ref h0), (1, .int (nI pt))]) rfl ?_
  refine z_aload_n C dX0_withCold_0 rfl 0 rfl ?_
  refine z_get (ref := "Shedwheel$Feeder") (v := .int (nI mw)) C hin_X0_withCold_X0 hL0 hF0 rfl 1 (by decide) (by decide +kernel) (fun _ h9 => h9) rfl dX0_withCold_1 ?_
  refine z_bipush C (nI 100) dX0_withCold_4 (by decide) ?_
  refine z_iload_n C dX0_withCold_6 rfl 1 rfl ?_
  refine z_iadd C (nI (100 + pt)) dX0_withCold_7 (nI_add 100 pt) ?_
  refine z_imul C (nI (mw * (100 + pt))) dX0_withCold_8 (pk_mul mw (100 + pt)) ?_
  refine z_bipush C (nI 100) dX0_withCold_9 (by decide) ?_
  refine z_idiv C (nI ((mw * (100 + pt)) / 100)) dX0_withCold_11 (by decide) (pk_div (a := mw * (100 + pt)) (d := 100) (by omega) (by decide) (by decide)) ?_
  refine z_iret0 C rfl rfl (by decide) (by decide) dX0_withCold_12 ?_
  exact ⟨rfl, rfl, rfl⟩

set_option maxRecDepth 100000 in
theorem hin_X0_mayBeCut_X0 : ∀ w ∈ u_ws RX0 TX0 7, w ∈ wsX0_mayBeCut := by decide +kernel
set_option maxHeartbeats 4000000 in
set_option maxRecDepth 100000 in
theorem c_X0_mayBeCut (l : Launch) (hlst : l.stackTraces = false) (G : zGt) (L : List Nat) (F : Nat → va_E) (h0 : Nat) (sg mw cr of ho th co : Nat) (hL0 : h0 ∈ L) (hF0 : F h0 = .inr (1, [.int (nI sg), .int (nI mw), .int (nI cr), .int (nI of), .int (nI ho), .int (nI th), .int (nI co)])) (hcr : cr ≤ 1) (hof : of ≤ 1) : zM l yX0_mayBeCut wsX0_mayBeCut 1 24 0 0 G L F [.ref h0] (fun rv L1 F1 => rv = some (.int (nI (if of = 0 ∧ cr = 0 then 1 else 0))) ∧ L1 = L ∧ F1 = F) := by
  refine z_of (cc := cX0_mayBeCut) (nL := 1) (ret := (some .boolean)) (own := RX0) hlst (by decide +kernel) rfl rfl (Nat.le_of_ble_eq_true rfl) ?_
  intro p e s m below meth c A hnm C
  refine z_lvs (lv' := [(0, .ref h0)]) rfl ?_
  refine z_aload_n C dX0_mayBeCut_0 rfl 0 rfl ?_
  refine z_get (ref := "Shedwheel$Feeder") (v := .int (nI of)) C hin_X0_mayBeCut_X0 hL0 hF0 rfl 3 (by decide) (by decide +kernel) (fun _ h9 => h9) rfl dX0_mayBeCut_1 ?_
  refine z_if_ne C 18 (((of : Nat) : Int) = (0 : Int)) (zi_eq (zi_N (n := of) (by omega)) zi_0) dX0_mayBeCut_4 (by decide) (fun c1_ => ?_) (fun c1_ => ?_)
  · -- 4 taken
    refine z_iconst C (nI 0) dX0_mayBeCut_18 (by decide) ?_
    refine z_iret0 C rfl rfl (by decide) (by decide) dX0_mayBeCut_19 ?_
    exact ⟨by rw [if_neg (by omega)], rfl, rfl⟩
  · -- 4 not taken
    refine z_aload_n C dX0_mayBeCut_7 rfl 0 rfl ?_
    refine z_get (ref := "Shedwheel$Feeder") (v := .int (nI cr)) C hin_X0_mayBeCut_X0 hL0 hF0 rfl 2 (by decide) (by decide +kernel) (fun _ h9 => h9) rfl dX0_mayBeCut_8 ?_
    refine z_if_ne C 18 (((cr : Nat) : Int) = (0 : Int)) (zi_eq (zi_N (n := cr) (by omega)) zi_0) dX0_mayBeCut_11 (by decide) (fun c2_ => ?_) (fun c2_ => ?_)
    · -- 11 taken
      refine z_iconst C (nI 0) dX0_mayBeCut_18 (by decide) ?_
      refine z_iret0 C rfl rfl (by decide) (by decide) dX0_mayBeCut_19 ?_
      exact ⟨by rw [if_neg (by omega)], rfl, rfl⟩
    · -- 11 not taken
      refine z_iconst C (nI 1) dX0_mayBeCut_14 (by decide) ?_
      refine z_goto C 19 dX0_mayBeCut_15 (by decide) ?_
      refine z_iret0 C rfl rfl (by decide) (by decide) dX0_mayBeCut_19 ?_
      exact ⟨by rw [if_pos (by omega)], rfl, rfl⟩

set_option maxRecDepth 100000 in
theorem hin_X0_mayReturn_X0 : ∀ w ∈ u_ws RX0 TX0 7, w ∈ wsX0_mayReturn := by decide +kernel
set_option maxHeartbeats 4000000 in
set_option maxRecDepth 100000 in
theorem c_X0_mayReturn (l : Launch) (hlst : l.stackTraces = false) (G : zGt) (L : List Nat) (F : Nat → va_E) (h0 : Nat) (sg mw cr of ho th co : Nat) (hL0 : h0 ∈ L) (hF0 : F h0 = .inr (1, [.int (nI sg), .int (nI mw), .int (nI cr), .int (nI of), .int (nI ho), .int (nI th), .int (nI co)])) (hcr : cr ≤ 1) (hof : of ≤ 1) : zM l yX0_mayReturn wsX0_mayReturn 1 24 0 0 G L F [.ref h0] (fun rv L1 F1 => rv = some (.int (nI (if of = 1 ∧ cr = 0 then 1 else 0))) ∧ L1 = L ∧ F1 = F) := by
  refine z_of (cc := cX0_mayReturn) (nL := 1) (ret := (some .boolean)) (own := RX0) hlst (by decide +kernel) rfl rfl (Nat.le_of_ble_eq_true rfl) ?_
  intro p e s m below meth c A hnm C
  refine z_lvs (lv' := [(0, .ref h0)]) rfl ?_
  refine z_aload_n C dX0_mayReturn_0 rfl 0 rfl ?_
  refine z_get (ref := "Shedwheel$Feeder") (v := .int (nI of)) C hin_X0_mayReturn_X0 hL0 hF0 rfl 3 (by decide) (by decide +kernel) (fun _ h9 => h9) rfl dX0_mayReturn_1 ?_
  refine z_if_eq C 18 (((of : Nat) : Int) = (0 : Int)) (zi_eq (zi_N (n := of) (by omega)) zi_0) dX0_mayReturn_4 (by decide) (fun c1_ => ?_) (fun c1_ => ?_)
  · -- 4 taken
    refine z_iconst C (nI 0) dX0_mayReturn_18 (by decide) ?_
    refine z_iret0 C rfl rfl (by decide) (by decide) dX0_mayReturn_19 ?_
    exact ⟨by rw [if_neg (by omega)], rfl, rfl⟩
  · -- 4 not taken
    refine z_aload_n C dX0_mayReturn_7 rfl 0 rfl ?_
    refine z_get (ref := "Shedwheel$Feeder") (v := .int (nI cr)) C hin_X0_mayReturn_X0 hL0 hF0 rfl 2 (by decide) (by decide +kernel) (fun _ h9 => h9) rfl dX0_mayReturn_8 ?_
    refine z_if_ne C 18 (((cr : Nat) : Int) = (0 : Int)) (zi_eq (zi_N (n := cr) (by omega)) zi_0) dX0_mayReturn_11 (by decide) (fun c2_ => ?_) (fun c2_ => ?_)
    · -- 11 taken
      refine z_iconst C (nI 0) dX0_mayReturn_18 (by decide) ?_
      refine z_iret0 C rfl rfl (by decide) (by decide) dX0_mayReturn_19 ?_
      exact ⟨by rw [if_neg (by omega)], rfl, rfl⟩
    · -- 11 not taken
      refine z_iconst C (nI 1) dX0_mayReturn_14 (by decide) ?_
      refine z_goto C 19 dX0_mayReturn_15 (by decide) ?_
      refine z_iret0 C rfl rfl (by decide) (by decide) dX0_mayReturn_19 ?_
      exact ⟨by rw [if_pos (by omega)], rfl, rfl⟩

set_option maxRecDepth 100000 in
theorem hin_X0_taken_X0 : ∀ w ∈ u_ws RX0 TX0 7, w ∈ wsX0_taken := by decide +kernel
set_option maxHeartbeats 4000000 in
set_option maxRecDepth 100000 in
theorem c_X0_taken (l : Launch) (hlst : l.stackTraces = false) (G : zGt) (L : List Nat) (F : Nat → va_E) (h0 : Nat) (sg mw cr of ho th co : Nat) (hL0 : h0 ∈ L) (hF0 : F h0 = .inr (1, [.int (nI sg), .int (nI mw), .int (nI cr), .int (nI of), .int (nI ho), .int (nI th), .int (nI co)])) (hmw : mw ≤ 999) (hco : co ≤ 100) (hof : of ≤ 1) : zM l yX0_taken wsX0_taken 2 45 0 0 G L F [.ref h0] (fun rv L1 F1 => rv = some (.int (nI (tkV mw of co))) ∧ L1 = L ∧ F1 = F) := by
  refine z_of (cc := cX0_taken) (nL := 1) (ret := (some .int)) (own := RX0) hlst (by decide +kernel) rfl rfl (Nat.le_of_ble_eq_true rfl) ?_
  intro p e s m below meth c A hnm C
  refine z_lvs (lv' := [(0, .ref h0)]) rfl ?_
  refine z_aload_n C dX0_taken_0 rfl 0 rfl ?_
  refine z_get (ref := "Shedwheel$Feeder") (v := .int (nI of)) C hin_X0_taken_X0 hL0 hF0 rfl 3 (by decide) (by decide +kernel) (fun _ h9 => h9) rfl dX0_taken_1 ?_
  refine z_if_eq C 11 (((of : Nat) : Int) = (0 : Int)) (zi_eq (zi_N (n := of) (by omega)) zi_0) dX0_taken_4 (by decide) (fun c1_ => ?_) (fun c1_ => ?_)
  · -- 4 taken
    refine z_aload_n C dX0_taken_11 rfl 0 rfl ?_
    refine z_aload_n C dX0_taken_12 rfl 0 rfl ?_
    refine z_get (ref := "Shedwheel$Feeder") (v := .int (nI co)) C hin_X0_taken_X0 hL0 hF0 rfl 6 (by decide) (by decide +kernel) (fun _ h9 => h9) rfl dX0_taken_13 ?_
    refine z_callV (As := [.int (nI co)]) (st := []) (mc := 0) (ms := 0) C hL0 hF0 rfl (c_X0_withCold l hlst G L F h0 sg mw cr of ho th co hL0 hF0 co (by omega) (by omega)) (cwV 1 C.1.2.2.2.2 gX0_taken_X0_withCold rfl rfl rfl (by decide +kernel) ⟨Nat.le_of_ble_eq_true rfl, Nat.le_of_ble_eq_true rfl⟩) rfl (Nat.le_of_ble_eq_true rfl) ⟨Nat.le_of_ble_eq_true rfl, Nat.le_of_ble_eq_true rfl⟩ dX0_taken_16 (z_p ?_)
    refine z_stk (st' := [.int (nI (mw * (100 + co) / 100))]) rfl ?_
    refine z_iret0 C rfl rfl (by decide) (by decide) dX0_taken_19 ?_
    exact ⟨by rw [tkV, if_pos (by omega)], rfl, rfl⟩
  · -- 4 not taken
    refine z_iconst C (nI 0) dX0_taken_7 (by decide) ?_
    refine z_goto C 19 dX0_taken_8 (by decide) ?_
    refine z_iret0 C rfl rfl (by decide) (by decide) dX0_taken_19 ?_
    exact ⟨by rw [tkV, if_neg (by omega)], rfl, rfl⟩

set_option maxRecDepth 100000 in
theorem hin_X0_coldOnReturn_X0 : ∀ w ∈ u_ws RX0 TX0 7, w ∈ wsX0_coldOnReturn := by decide +kernel
set_option maxHeartbeats 4000000 in
set_option maxRecDepth 100000 in
theorem c_X0_coldOnReturn (l : Launch) (hlst : l.stackTraces = false) (G : zGt) (L : List Nat) (F : Nat → va_E) (h0 : Nat) (sg mw cr of ho th co : Nat) (hL0 : h0 ∈ L) (hF0 : F h0 = .inr (1, [.int (nI sg), .int (nI mw), .int (nI cr), .int (nI of), .int (nI ho), .int (nI th), .int (nI co)])) (hth : th ≤ 60000) : zM l yX0_coldOnReturn wsX0_coldOnReturn 1 24 0 0 G L F [.ref h0] (fun rv L1 F1 => rv = some (.int (nI (crV th))) ∧ L1 = L ∧ F1 = F) := by
  refine z_of (cc := cX0_coldOnReturn) (nL := 1) (ret := (some .int)) (own := RX0) hlst (by decide +kernel) rfl rfl (Nat.le_of_ble_eq_true rfl) ?_
  intro p e s m below meth c A hnm C
  refine z_lvs (lv' := [(0, .ref h0)]) rfl ?_
  refine z_bipush C (nI 100) dX0_coldOnReturn_0 (by decide) ?_
  refine z_bipush C (nI 10) dX0_coldOnReturn_2 (by decide) ?_
  refine z_aload_n C dX0_coldOnReturn_4 rfl 0 rfl ?_
  refine z_get (ref := "Shedwheel$Feeder") (v := .int (nI th)) C hin_X0_coldOnReturn_X0 hL0 hF0 rfl 5 (by decide) (by decide +kernel) (fun _ h9 => h9) rfl dX0_coldOnReturn_5 ?_
  refine z_imul C (nI (10 * th)) dX0_coldOnReturn_8 (pk_mul 10 th) ?_
  refine z_min C (nI (crV th)) (by decide +kernel) (by decide +kernel) (by decide +kernel) (by decide +kernel) (Nat.le_of_ble_eq_true rfl) (Nat.le_of_ble_eq_true rfl) (Nat.le_of_ble_eq_true rfl) (Nat.le_of_ble_eq_true rfl) dX0_coldOnReturn_9 (crV_min (by omega)) ?_
  refine z_iret0 C rfl rfl (by decide) (by decide) dX0_coldOnReturn_12 ?_
  exact ⟨rfl, rfl, rfl⟩

set_option maxRecDepth 100000 in
theorem hin_X0_takenIfRestored_X0 : ∀ w ∈ u_ws RX0 TX0 7, w ∈ wsX0_takenIfRestored := by decide +kernel
set_option maxHeartbeats 4000000 in
set_option maxRecDepth 100000 in
theorem c_X0_takenIfRestored (l : Launch) (hlst : l.stackTraces = false) (G : zGt) (L : List Nat) (F : Nat → va_E) (h0 : Nat) (sg mw cr of ho th co : Nat) (hL0 : h0 ∈ L) (hF0 : F h0 = .inr (1, [.int (nI sg), .int (nI mw), .int (nI cr), .int (nI of), .int (nI ho), .int (nI th), .int (nI co)])) (hmw : mw ≤ 999) (hco : co ≤ 100) (hof : of ≤ 1) (hth : th ≤ 60000) : zM l yX0_takenIfRestored wsX0_takenIfRestored 3 65 0 0 G L F [.ref h0] (fun rv L1 F1 => rv = some (.int (nI (rsV mw of th co))) ∧ L1 = L ∧ F1 = F) := by
  have hcv := crV_le th
  refine z_of (cc := cX0_takenIfRestored) (nL := 1) (ret := (some .int)) (own := RX0) hlst (by decide +kernel) rfl rfl (Nat.le_of_ble_eq_true rfl) ?_
  intro p e s m below meth c A hnm C
  refine z_lvs (lv' := [(0, .ref h0)]) rfl ?_
  refine z_aload_n C dX0_takenIfRestored_0 rfl 0 rfl ?_
  refine z_get (ref := "Shedwheel$Feeder") (v := .int (nI of)) C hin_X0_takenIfRestored_X0 hL0 hF0 rfl 3 (by decide) (by decide +kernel) (fun _ h9 => h9) rfl dX0_takenIfRestored_1 ?_
  refine z_if_eq C 18 (((of : Nat) : Int) = (0 : Int)) (zi_eq (zi_N (n := of) (by omega)) zi_0) dX0_takenIfRestored_4 (by decide) (fun c1_ => ?_) (fun c1_ => ?_)
  · -- 4 taken
    refine z_aload_n C dX0_takenIfRestored_18 rfl 0 rfl ?_
    refine z_callV (As := []) (st := []) (mc := 0) (ms := 0) C hL0 hF0 rfl (c_X0_taken l hlst G L F h0 sg mw cr of ho th co hL0 hF0 (by omega) (by omega) (by omega)) (cwV 0 C.1.2.2.2.2 gX0_takenIfRestored_X0_taken rfl rfl rfl (by decide +kernel) ⟨Nat.le_of_ble_eq_true rfl, Nat.le_of_ble_eq_true rfl⟩) rfl (Nat.le_of_ble_eq_true rfl) ⟨Nat.le_of_ble_eq_true rfl, Nat.le_of_ble_eq_true rfl⟩ dX0_takenIfRestored_19 (z_p ?_)
    refine z_stk (st' := [.int (nI (tkV mw of co))]) rfl ?_
    refine z_iret0 C rfl rfl (by decide) (by decide) dX0_takenIfRestored_22 ?_
    exact ⟨by rw [rsV, if_pos (by omega), tkV, if_pos (by omega)], rfl, rfl⟩
  · -- 4 not taken
    refine z_aload_n C dX0_takenIfRestored_7 rfl 0 rfl ?_
    refine z_aload_n C dX0_takenIfRestored_8 rfl 0 rfl ?_
    refine z_callV (As := []) (st := [.ref h0]) (mc := 0) (ms := 0) C hL0 hF0 rfl (c_X0_coldOnReturn l hlst G L F h0 sg mw cr of ho th co hL0 hF0 (by omega)) (cwV 0 C.1.2.2.2.2 gX0_takenIfRestored_X0_coldOnReturn rfl rfl rfl (by decide +kernel) ⟨Nat.le_of_ble_eq_true rfl, Nat.le_of_ble_eq_true rfl⟩) rfl (Nat.le_of_ble_eq_true rfl) ⟨Nat.le_of_ble_eq_true rfl, Nat.le_of_ble_eq_true rfl⟩ dX0_takenIfRestored_9 (z_p ?_)
    refine z_stk (st' := [.int (nI (crV th)), .ref h0]) rfl ?_
    refine z_callV (As := [.int (nI (crV th))]) (st := []) (mc := 0) (ms := 0) C hL0 hF0 rfl (c_X0_withCold l hlst G L F h0 sg mw cr of ho th co hL0 hF0 (crV th) (by omega) (by omega)) (cwV 1 C.1.2.2.2.2 gX0_takenIfRestored_X0_withCold rfl rfl rfl (by decide +kernel) ⟨Nat.le_of_ble_eq_true rfl, Nat.le_of_ble_eq_true rfl⟩) rfl (Nat.le_of_ble_eq_true rfl) ⟨Nat.le_of_ble_eq_true rfl, Nat.le_of_ble_eq_true rfl⟩ dX0_takenIfRestored_12 (z_p ?_)
    refine z_stk (st' := [.int (nI (mw * (100 + (crV th)) / 100))]) rfl ?_
    refine z_goto C 22 dX0_takenIfRestored_15 (by decide) ?_
    refine z_iret0 C rfl rfl (by decide) (by decide) dX0_takenIfRestored_22 ?_
    exact ⟨by rw [rsV, if_neg (by omega)], rfl, rfl⟩

set_option maxRecDepth 100000 in
theorem hin_X0_switchOff_X0 : ∀ w ∈ u_ws RX0 TX0 7, w ∈ wsX0_switchOff := by decide +kernel
set_option maxHeartbeats 4000000 in
set_option maxRecDepth 100000 in
theorem c_X0_switchOff (l : Launch) (hlst : l.stackTraces = false) (G : zGt) (L : List Nat) (F : Nat → va_E) (h0 : Nat) (sg mw cr of ho th co : Nat) (hL0 : h0 ∈ L) (hF0 : F h0 = .inr (1, [.int (nI sg), .int (nI mw), .int (nI cr), .int (nI of), .int (nI ho), .int (nI th), .int (nI co)])) (hmw : mw ≤ 999) (hco : co ≤ 100) (hof : of ≤ 1) : zM l yX0_switchOff wsX0_switchOff 3 65 0 0 G L F [.ref h0] (fun rv L1 F1 => rv = some (.int (nI (tkV mw of co))) ∧ L1 = L ∧ F1 h0 = .inr (1, [.int (nI sg), .int (nI mw), .int (nI cr), .int (nI 1), .int (nI ho), .int (nI 0), .int (nI 0)]) ∧ ∀ b, b ≠ h0 → F1 b = F b) := by
  refine z_of (cc := cX0_switchOff) (nL := 2) (ret := (some .int)) (own := RX0) hlst (by decide +kernel) rfl rfl (Nat.le_of_ble_eq_true rfl) ?_
  intro p e s m below meth c A hnm C
  refine z_lvs (lv' := [(0, .ref h0)]) rfl ?_
  refine z_aload_n C dX0_switchOff_0 rfl 0 rfl ?_
  refine z_callV (As := []) (st := []) (mc := 0) (ms := 0) C hL0 hF0 rfl (c_X0_taken l hlst G L F h0 sg mw cr of ho th co hL0 hF0 (by omega) (by omega) (by omega)) (cwV 0 C.1.2.2.2.2 gX0_switchOff_X0_taken rfl rfl rfl (by decide +kernel) ⟨Nat.le_of_ble_eq_true rfl, Nat.le_of_ble_eq_true rfl⟩) rfl (Nat.le_of_ble_eq_true rfl) ⟨Nat.le_of_ble_eq_true rfl, Nat.le_of_ble_eq_true rfl⟩ dX0_switchOff_1 (z_p ?_)
  refine z_stk (st' := [.int (nI (tkV mw of co))]) rfl ?_
  refine z_istore_n (lv' := [(1, .int (nI (tkV mw of co))), (0, .ref h0)]) C dX0_switchOff_4 rfl (by decide) rfl ?_
  refine z_aload_n C dX0_switchOff_5 rfl 1 rfl ?_
  refine z_iconst C (nI 1) dX0_switchOff_6 (by decide) ?_
  refine z_put (ref := "Shedwheel$Feeder") (v := .int (nI 1)) (fs' := [.int (nI sg), .int (nI mw), .int (nI cr), .int (nI 1), .int (nI ho), .int (nI th), .int (nI co)]) C hin_X0_switchOff_X0 tyX0 tyX0_ok nmX0 hL0 hF0 rfl 3 (by decide) (by decide +kernel) (fun _ h9 => h9) rfl rfl rfl (Nat.le_of_ble_eq_true rfl) rfl dX0_switchOff_7 (fun F1_ h2_ k3_ => ?_)
  have kc4_ : ∀ b, b ≠ h0 → F1_ b = F b := fun b q0 => k3_ b q0
  refine z_aload_n C dX0_switchOff_10 rfl 1 rfl ?_
  refine z_iconst C (nI 0) dX0_switchOff_11 (by decide) ?_
  refine z_put (ref := "Shedwheel$Feeder") (v := .int (nI 0)) (fs' := [.int (nI sg), .int (nI mw), .int (nI cr), .int (nI 1), .int (nI ho), .int (nI 0), .int (nI co)]) C hin_X0_switchOff_X0 tyX0 tyX0_ok nmX0 hL0 h2_ rfl 5 (by decide) (by decide +kernel) (fun _ h9 => h9) rfl rfl rfl (Nat.le_of_ble_eq_true rfl) rfl dX0_switchOff_12 (fun F5_ h6_ k7_ => ?_)
  have kc8_ : ∀ b, b ≠ h0 → F5_ b = F b := fun b q0 => (k7_ b q0).trans (kc4_ b q0)
  refine z_aload_n C dX0_switchOff_15 rfl 1 rfl ?_
  refine z_iconst C (nI 0) dX0_switchOff_16 (by decide) ?_
  refine z_put (ref := "Shedwheel$Feeder") (v := .int (nI 0)) (fs' := [.int (nI sg), .int (nI mw), .int (nI cr), .int (nI 1), .int (nI ho), .int (nI 0), .int (nI 0)]) C hin_X0_switchOff_X0 tyX0 tyX0_ok nmX0 hL0 h6_ rfl 6 (by decide) (by decide +kernel) (fun _ h9 => h9) rfl rfl rfl (Nat.le_of_ble_eq_true rfl) rfl dX0_switchOff_17 (fun F9_ h10_ k11_ => ?_)
  have kc12_ : ∀ b, b ≠ h0 → F9_ b = F b := fun b q0 => (k11_ b q0).trans (kc8_ b q0)
  refine z_iload_n C dX0_switchOff_20 rfl 0 rfl ?_
  refine z_iret0 C rfl rfl (by decide) (by decide) dX0_switchOff_21 ?_
  exact ⟨rfl, rfl, h10_, kc12_⟩

set_option maxRecDepth 100000 in
theorem hin_X0_switchOn_X0 : ∀ w ∈ u_ws RX0 TX0 7, w ∈ wsX0_switchOn := by decide +kernel
set_option maxHeartbeats 4000000 in
set_option maxRecDepth 100000 in
theorem c_X0_switchOn (l : Launch) (hlst : l.stackTraces = false) (G : zGt) (L : List Nat) (F : Nat → va_E) (h0 : Nat) (sg mw cr of ho th co : Nat) (hL0 : h0 ∈ L) (hF0 : F h0 = .inr (1, [.int (nI sg), .int (nI mw), .int (nI cr), .int (nI of), .int (nI ho), .int (nI th), .int (nI co)])) (hth : th ≤ 60000) : zM l yX0_switchOn wsX0_switchOn 2 44 0 0 G L F [.ref h0] (fun rv L1 F1 => rv = none ∧ L1 = L ∧ F1 h0 = .inr (1, [.int (nI sg), .int (nI mw), .int (nI cr), .int (nI 0), .int (nI ho), .int (nI th), .int (nI (crV th))]) ∧ ∀ b, b ≠ h0 → F1 b = F b) := by
  refine z_of (cc := cX0_switchOn) (nL := 1) (ret := none) (own := RX0) hlst (by decide +kernel) rfl rfl (Nat.le_of_ble_eq_true rfl) ?_
  intro p e s m below meth c A hnm C
  refine z_lvs (lv' := [(0, .ref h0)]) rfl ?_
  refine z_aload_n C dX0_switchOn_0 rfl 0 rfl ?_
  refine z_aload_n C dX0_switchOn_1 rfl 0 rfl ?_
  refine z_callV (As := []) (st := [.ref h0]) (mc := 0) (ms := 0) C hL0 hF0 rfl (c_X0_coldOnReturn l hlst G L F h0 sg mw cr of ho th co hL0 hF0 (by omega)) (cwV 0 C.1.2.2.2.2 gX0_switchOn_X0_coldOnReturn rfl rfl rfl (by decide +kernel) ⟨Nat.le_of_ble_eq_true rfl, Nat.le_of_ble_eq_true rfl⟩) rfl (Nat.le_of_ble_eq_true rfl) ⟨Nat.le_of_ble_eq_true rfl, Nat.le_of_ble_eq_true rfl⟩ dX0_switchOn_2 (z_p ?_)
  refine z_stk (st' := [.int (nI (crV th)), .ref h0]) rfl ?_
  refine z_put (ref := "Shedwheel$Feeder") (v := .int (nI (crV th))) (fs' := [.int (nI sg), .int (nI mw), .int (nI cr), .int (nI of), .int (nI ho), .int (nI th), .int (nI (crV th))]) C hin_X0_switchOn_X0 tyX0 tyX0_ok nmX0 hL0 hF0 rfl 6 (by decide) (by decide +kernel) (fun _ h9 => h9) rfl rfl rfl (Nat.le_of_ble_eq_true rfl) rfl dX0_switchOn_5 (fun F1_ h2_ k3_ => ?_)
  have kc4_ : ∀ b, b ≠ h0 → F1_ b = F b := fun b q0 => k3_ b q0
  refine z_aload_n C dX0_switchOn_8 rfl 0 rfl ?_
  refine z_iconst C (nI 0) dX0_switchOn_9 (by decide) ?_
  refine z_put (ref := "Shedwheel$Feeder") (v := .int (nI 0)) (fs' := [.int (nI sg), .int (nI mw), .int (nI cr), .int (nI 0), .int (nI ho), .int (nI th), .int (nI (crV th))]) C hin_X0_switchOn_X0 tyX0 tyX0_ok nmX0 hL0 h2_ rfl 3 (by decide) (by decide +kernel) (fun _ h9 => h9) rfl rfl rfl (Nat.le_of_ble_eq_true rfl) rfl dX0_switchOn_10 (fun F5_ h6_ k7_ => ?_)
  have kc8_ : ∀ b, b ≠ h0 → F5_ b = F b := fun b q0 => (k7_ b q0).trans (kc4_ b q0)
  refine z_vret0 C rfl (by decide) (by decide) dX0_switchOn_13 ?_
  exact ⟨rfl, rfl, h6_, kc8_⟩

set_option maxRecDepth 100000 in
theorem hin_X0_letPass_X0 : ∀ w ∈ u_ws RX0 TX0 7, w ∈ wsX0_letPass := by decide +kernel
set_option maxHeartbeats 4000000 in
set_option maxRecDepth 100000 in
theorem c_X0_letPass (l : Launch) (hlst : l.stackTraces = false) (G : zGt) (L : List Nat) (F : Nat → va_E) (h0 : Nat) (sg mw cr of ho th co : Nat) (hL0 : h0 ∈ L) (hF0 : F h0 = .inr (1, [.int (nI sg), .int (nI mw), .int (nI cr), .int (nI of), .int (nI ho), .int (nI th), .int (nI co)])) (ps : Nat) (hps : ps ≤ 100) (hco : co ≤ 100) (hof : of ≤ 1) : zM l yX0_letPass wsX0_letPass 1 24 0 0 G L F [.ref h0, .int (nI ps)] (fun rv L1 F1 => rv = none ∧ L1 = L ∧ (F1 h0 = .inr (1, [.int (nI sg), .int (nI mw), .int (nI cr), .int (nI of), .int (nI (if of = 0 then ho else ho + ps)), .int (nI (if of = 0 then th else th + ps)), .int (nI (if of = 0 then co - 20 * ps else co))])) ∧ ∀ b, b ≠ h0 → F1 b = F b) := by
  refine z_of (cc := cX0_letPass) (nL := 2) (ret := none) (own := RX0) hlst (by decide +kernel) rfl rfl (Nat.le_of_ble_eq_true rfl) ?_
  intro p e s m below meth c A hnm C
  refine z_lvs (lv' := [(0, .ref h0), (1, .int (nI ps))]) rfl ?_
  refine z_aload_n C dX0_letPass_0 rfl 0 rfl ?_
  refine z_get (ref := "Shedwheel$Feeder") (v := .int (nI of)) C hin_X0_letPass_X0 hL0 hF0 rfl 3 (by decide) (by decide +kernel) (fun _ h9 => h9) rfl dX0_letPass_1 ?_
  refine z_if_eq C 30 (((of : Nat) : Int) = (0 : Int)) (zi_eq (zi_N (n := of) (by omega)) zi_0) dX0_letPass_4 (by decide) (fun c1_ => ?_) (fun c1_ => ?_)
  · -- 4 taken
    refine z_aload_n C dX0_letPass_30 rfl 0 rfl ?_
    refine z_iconst C (nI 0) dX0_letPass_31 (by decide) ?_
    refine z_aload_n C dX0_letPass_32 rfl 0 rfl ?_
    refine z_get (ref := "Shedwheel$Feeder") (v := .int (nI co)) C hin_X0_letPass_X0 hL0 hF0 rfl 6 (by decide) (by decide +kernel) (fun _ h9 => h9) rfl dX0_letPass_33 ?_
    refine z_bipush C (nI 20) dX0_letPass_36 (by decide) ?_
    refine z_iload_n C dX0_letPass_38 rfl 1 rfl ?_
    refine z_imul C (nI (20 * ps)) dX0_letPass_39 (pk_mul 20 ps) ?_
    refine z_isub C (nI co - nI (20 * ps)) dX0_letPass_40 (rfl) ?_
    refine z_max C (nI (co - 20 * ps)) (by decide +kernel) (by decide +kernel) (by decide +kernel) (by decide +kernel) (Nat.le_of_ble_eq_true rfl) (Nat.le_of_ble_eq_true rfl) (Nat.le_of_ble_eq_true rfl) (Nat.le_of_ble_eq_true rfl) dX0_letPass_41 (mx_sub (by omega) (by omega)) ?_
    refine z_put (ref := "Shedwheel$Feeder") (v := .int (nI (co - 20 * ps))) (fs' := [.int (nI sg), .int (nI mw), .int (nI cr), .int (nI of), .int (nI ho), .int (nI th), .int (nI (co - 20 * ps))]) C hin_X0_letPass_X0 tyX0 tyX0_ok nmX0 hL0 hF0 rfl 6 (by decide) (by decide +kernel) (fun _ h9 => h9) rfl rfl rfl (Nat.le_of_ble_eq_true rfl) rfl dX0_letPass_44 (fun F2_ h3_ k4_ => ?_)
    have kc5_ : ∀ b, b ≠ h0 → F2_ b = F b := fun b q0 => k4_ b q0
    refine z_vret0 C rfl (by decide) (by decide) dX0_letPass_47 ?_
    exact ⟨rfl, rfl, by simp only [if_pos (show of = 0 by omega)]; exact h3_, kc5_⟩
  · -- 4 not taken
    refine z_aload_n C dX0_letPass_7 rfl 0 rfl ?_
    refine z_dup C dX0_letPass_8 rfl ?_
    refine z_get (ref := "Shedwheel$Feeder") (v := .int (nI ho)) C hin_X0_letPass_X0 hL0 hF0 rfl 4 (by decide) (by decide +kernel) (fun _ h9 => h9) rfl dX0_letPass_9 ?_
    refine z_iload_n C dX0_letPass_12 rfl 1 rfl ?_
    refine z_iadd C (nI (ho + ps)) dX0_letPass_13 (nI_add ho ps) ?_
    refine z_put (ref := "Shedwheel$Feeder") (v := .int (nI (ho + ps))) (fs' := [.int (nI sg), .int (nI mw), .int (nI cr), .int (nI of), .int (nI (ho + ps)), .int (nI th), .int (nI co)]) C hin_X0_letPass_X0 tyX0 tyX0_ok nmX0 hL0 hF0 rfl 4 (by decide) (by decide +kernel) (fun _ h9 => h9) rfl rfl rfl (Nat.le_of_ble_eq_true rfl) rfl dX0_letPass_14 (fun F6_ h7_ k8_ => ?_)
    have kc9_ : ∀ b, b ≠ h0 → F6_ b = F b := fun b q0 => k8_ b q0
    refine z_aload_n C dX0_letPass_17 rfl 0 rfl ?_
    refine z_dup C dX0_letPass_18 rfl ?_
    refine z_get (ref := "Shedwheel$Feeder") (v := .int (nI th)) C hin_X0_letPass_X0 hL0 h7_ rfl 5 (by decide) (by decide +kernel) (fun _ h9 => h9) rfl dX0_letPass_19 ?_
    refine z_iload_n C dX0_letPass_22 rfl 1 rfl ?_
    refine z_iadd C (nI (th + ps)) dX0_letPass_23 (nI_add th ps) ?_
    refine z_put (ref := "Shedwheel$Feeder") (v := .int (nI (th + ps))) (fs' := [.int (nI sg), .int (nI mw), .int (nI cr), .int (nI of), .int (nI (ho + ps)), .int (nI (th + ps)), .int (nI co)]) C hin_X0_letPass_X0 tyX0 tyX0_ok nmX0 hL0 h7_ rfl 5 (by decide) (by decide +kernel) (fun _ h9 => h9) rfl rfl rfl (Nat.le_of_ble_eq_true rfl) rfl dX0_letPass_24 (fun F10_ h11_ k12_ => ?_)
    have kc13_ : ∀ b, b ≠ h0 → F10_ b = F b := fun b q0 => (k12_ b q0).trans (kc9_ b q0)
    refine z_goto C 47 dX0_letPass_27 (by decide) ?_
    refine z_vret0 C rfl (by decide) (by decide) dX0_letPass_47 ?_
    exact ⟨rfl, rfl, by simp only [if_neg (show ¬ of = 0 by omega)]; exact h11_, kc13_⟩

set_option maxRecDepth 100000 in
theorem hin_X0_init_X0 : ∀ w ∈ u_ws RX0 TX0 7, w ∈ wsX0_init := by decide +kernel
set_option maxHeartbeats 4000000 in
set_option maxRecDepth 100000 in
theorem c_X0_init (l : Launch) (hlst : l.stackTraces = false) (G : zGt) (L : List Nat) (F : Nat → va_E) (h0 : Nat) (sg mw cr of ho th co : Nat) (hL0 : h0 ∈ L) (hF0 : F h0 = .inr (1, [.int (nI sg), .int (nI mw), .int (nI cr), .int (nI of), .int (nI ho), .int (nI th), .int (nI co)])) (ld c1 s1 : Nat) (hc1 : c1 ≤ 1) : zM l yX0_init wsX0_init 1 24 0 0 G L F [.ref h0, .int (nI ld), .int (nI c1), .int (nI s1)] (fun rv L1 F1 => rv = none ∧ L1 = L ∧ F1 h0 = .inr (1, [.int (nI s1), .int (nI ld), .int (nI c1), .int (nI 0), .int (nI 0), .int (nI 0), .int (nI 0)]) ∧ ∀ b, b ≠ h0 → F1 b = F b) := by
  refine z_of (cc := cX0_init) (nL := 4) (ret := none) (own := RX0) hlst (by decide +kernel) rfl rfl (Nat.le_of_ble_eq_true rfl) ?_
  intro p e s m below meth c A hnm C
  refine z_lvs (lv' := [(0, .ref h0), (1, .int (nI ld)), (2, .int (nI c1)), (3, .int (nI s1))]) rfl ?_
  refine z_aload_n C dX0_init_0 rfl 0 rfl ?_
  refine z_obj (T9 := []) C (by decide +kernel) (by decide +kernel) (by decide +kernel) (Nat.le_of_ble_eq_true rfl) (Nat.le_of_ble_eq_true rfl) dX0_init_1 ?_
  refine z_aload_n C dX0_init_4 rfl 0 rfl ?_
  refine z_iconst C (nI 0) dX0_init_5 (by decide) ?_
  refine z_put (ref := "Shedwheel$Feeder") (v := .int (nI 0)) (fs' := [.int (nI sg), .int (nI mw), .int (nI cr), .int (nI 0), .int (nI ho), .int (nI th), .int (nI co)]) C hin_X0_init_X0 tyX0 tyX0_ok nmX0 hL0 hF0 rfl 3 (by decide) (by decide +kernel) (fun _ h9 => h9) rfl rfl rfl (Nat.le_of_ble_eq_true rfl) rfl dX0_init_6 (fun F1_ h2_ k3_ => ?_)
  have kc4_ : ∀ b, b ≠ h0 → F1_ b = F b := fun b q0 => k3_ b q0
  refine z_aload_n C dX0_init_9 rfl 0 rfl ?_
  refine z_iconst C (nI 0) dX0_init_10 (by decide) ?_
  refine z_put (ref := "Shedwheel$Feeder") (v := .int (nI 0)) (fs' := [.int (nI sg), .int (nI mw), .int (nI cr), .int (nI 0), .int (nI 0), .int (nI th), .int (nI co)]) C hin_X0_init_X0 tyX0 tyX0_ok nmX0 hL0 h2_ rfl 4 (by decide) (by decide +kernel) (fun _ h9 => h9) rfl rfl rfl (Nat.le_of_ble_eq_true rfl) rfl dX0_init_11 (fun F5_ h6_ k7_ => ?_)
  have kc8_ : ∀ b, b ≠ h0 → F5_ b = F b := fun b q0 => (k7_ b q0).trans (kc4_ b q0)
  refine z_aload_n C dX0_init_14 rfl 0 rfl ?_
  refine z_iconst C (nI 0) dX0_init_15 (by decide) ?_
  refine z_put (ref := "Shedwheel$Feeder") (v := .int (nI 0)) (fs' := [.int (nI sg), .int (nI mw), .int (nI cr), .int (nI 0), .int (nI 0), .int (nI 0), .int (nI co)]) C hin_X0_init_X0 tyX0 tyX0_ok nmX0 hL0 h6_ rfl 5 (by decide) (by decide +kernel) (fun _ h9 => h9) rfl rfl rfl (Nat.le_of_ble_eq_true rfl) rfl dX0_init_16 (fun F9_ h10_ k11_ => ?_)
  have kc12_ : ∀ b, b ≠ h0 → F9_ b = F b := fun b q0 => (k11_ b q0).trans (kc8_ b q0)
  refine z_aload_n C dX0_init_19 rfl 0 rfl ?_
  refine z_iconst C (nI 0) dX0_init_20 (by decide) ?_
  refine z_put (ref := "Shedwheel$Feeder") (v := .int (nI 0)) (fs' := [.int (nI sg), .int (nI mw), .int (nI cr), .int (nI 0), .int (nI 0), .int (nI 0), .int (nI 0)]) C hin_X0_init_X0 tyX0 tyX0_ok nmX0 hL0 h10_ rfl 6 (by decide) (by decide +kernel) (fun _ h9 => h9) rfl rfl rfl (Nat.le_of_ble_eq_true rfl) rfl dX0_init_21 (fun F13_ h14_ k15_ => ?_)
  have kc16_ : ∀ b, b ≠ h0 → F13_ b = F b := fun b q0 => (k15_ b q0).trans (kc12_ b q0)
  refine z_aload_n C dX0_init_24 rfl 0 rfl ?_
  refine z_iload_n C dX0_init_25 rfl 1 rfl ?_
  refine z_put (ref := "Shedwheel$Feeder") (v := .int (nI ld)) (fs' := [.int (nI sg), .int (nI ld), .int (nI cr), .int (nI 0), .int (nI 0), .int (nI 0), .int (nI 0)]) C hin_X0_init_X0 tyX0 tyX0_ok nmX0 hL0 h14_ rfl 1 (by decide) (by decide +kernel) (fun _ h9 => h9) rfl rfl rfl (Nat.le_of_ble_eq_true rfl) rfl dX0_init_26 (fun F17_ h18_ k19_ => ?_)
  have kc20_ : ∀ b, b ≠ h0 → F17_ b = F b := fun b q0 => (k19_ b q0).trans (kc16_ b q0)
  refine z_aload_n C dX0_init_29 rfl 0 rfl ?_
  refine z_iload_n C dX0_init_30 rfl 2 rfl ?_
  refine z_put (ref := "Shedwheel$Feeder") (v := .int (nI c1)) (fs' := [.int (nI sg), .int (nI ld), .int (nI c1), .int (nI 0), .int (nI 0), .int (nI 0), .int (nI 0)]) C hin_X0_init_X0 tyX0 tyX0_ok nmX0 hL0 h18_ rfl 2 (by decide) (by decide +kernel) (fun _ h9 => h9) rfl (zb_n (b := c1) (by omega)) (zb_f (b := c1) (by omega)) (Nat.le_of_ble_eq_true rfl) rfl dX0_init_31 (fun F21_ h22_ k23_ => ?_)
  have kc24_ : ∀ b, b ≠ h0 → F21_ b = F b := fun b q0 => (k23_ b q0).trans (kc20_ b q0)
  refine z_aload_n C dX0_init_34 rfl 0 rfl ?_
  refine z_iload_n C dX0_init_35 rfl 3 rfl ?_
  refine z_putF (ref := "Shedwheel$Feeder") (v := .int (nI s1)) (fs' := [.int (nI s1), .int (nI ld), .int (nI c1), .int (nI 0), .int (nI 0), .int (nI 0), .int (nI 0)]) C hin_X0_init_X0 tyX0 tyX0_ok nmX0 hL0 h22_ rfl 0 (by decide) (by decide +kernel) (fun _ h9 => h9) rfl hnm rfl rfl rfl (Nat.le_of_ble_eq_true rfl) rfl dX0_init_36 (fun F25_ h26_ k27_ => ?_)
  have kc28_ : ∀ b, b ≠ h0 → F25_ b = F b := fun b q0 => (k27_ b q0).trans (kc24_ b q0)
  refine z_vret0 C rfl (by decide) (by decide) dX0_init_39 ?_
  exact ⟨rfl, rfl, h26_, kc28_⟩
end
section
theorem zif_iff {P : Prop} [Decidable P] : nI (if P then 1 else 0) = 0 ↔ ¬ P := by
  by_cases h : P
  · rw [if_pos h]; exact ⟨fun q => absurd q (by decide), fun q => absurd h q⟩
  · rw [if_neg h]; exact ⟨fun _ => h, fun _ => rfl⟩
theorem xOk0 (nu : Nat → Nat) (o : Nat) (h : o ≤ 12) : xOk nu o (0, 0, 0) := ⟨fun _ _ => Nat.dvd_zero _, by decide, by show 0 + o * 1998 ≤ 24000; omega, by show 0 + o * 60000 ≤ 720000; omega⟩
set_option maxRecDepth 100000 in
theorem hin_X1_begin_X1 : ∀ w ∈ u_ws RX1 TX1 10, w ∈ wsX1_begin := by decide +kernel
set_option maxHeartbeats 4000000 in
set_option maxRecDepth 100000 in
theorem c_X1_begin (l : Launch) (hlst : l.stackTraces = false) (G : zGt) (L : List Nat) (F : Nat → va_E) (h0 b4 b5 b6 b7 : Nat) (cnt sf nl bs bt bh : Nat) (hL0 : h0 ∈ L) (hF0 : F h0 = .inr (2, [.ref b4, .ref b5, .ref b6, .ref b7, .int (nI cnt), .int (nI sf), .int (nI nl), .int (nI bs), .int (nI bt), .int (nI bh)])) (a b : Nat) : zM l yX1_begin wsX1_begin 1 24 0 0 G L F [.ref h0, .int (nI a), .int (nI b)] (fun rv L1 F1 => rv = none ∧ L1 = L ∧ F1 h0 = .inr (2, [.ref b4, .ref b5, .ref b6, .ref b7, .int (nI (0)), .int (nI (a)), .int (nI (a + b)), .int (nI (0)), .int (nI (bt)), .int (nI (bh))]) ∧ ∀ b, b ≠ h0 → F1 b = F b) := by
  refine z_of (cc := cX1_begin) (nL := 3) (ret := none) (own := RX1) hlst (by decide +kernel) rfl rfl (Nat.le_of_ble_eq_true rfl) ?_
  intro p e s m below meth c A hnm C
  refine z_lvs (lv' := [(0, .ref h0), (1, .int (nI a)), (2, .int (nI b))]) rfl ?_
  refine z_aload_n C dX1_begin_0 rfl 0 rfl ?_
  refine z_iload_n C dX1_begin_1 rfl 1 rfl ?_
  refine z_put (ref := "Shedwheel$Search") (v := .int (nI a)) (fs' := [.ref b4, .ref b5, .ref b6, .ref b7, .int (nI cnt), .int (nI a), .int (nI nl), .int (nI bs), .int (nI bt), .int (nI bh)]) C hin_X1_begin_X1 tyX1 tyX1_ok nmX1 hL0 hF0 rfl 5 (by decide) (by decide +kernel) (fun _ h9 => h9) rfl rfl rfl (Nat.le_of_ble_eq_true rfl) rfl dX1_begin_2 (fun F1_ h2_ k3_ => ?_)
  have kc4_ : ∀ b, b ≠ h0 → F1_ b = F b := fun b q0 => k3_ b q0
  refine z_aload_n C dX1_begin_5 rfl 0 rfl ?_
  refine z_iload_n C dX1_begin_6 rfl 1 rfl ?_
  refine z_iload_n C dX1_begin_7 rfl 2 rfl ?_
  refine z_iadd C (nI (a + b)) dX1_begin_8 (nI_add a b) ?_
  refine z_put (ref := "Shedwheel$Search") (v := .int (nI (a + b))) (fs' := [.ref b4, .ref b5, .ref b6, .ref b7, .int (nI cnt), .int (nI a), .int (nI (a + b)), .int (nI bs), .int (nI bt), .int (nI bh)]) C hin_X1_begin_X1 tyX1 tyX1_ok nmX1 hL0 h2_ rfl 6 (by decide) (by decide +kernel) (fun _ h9 => h9) rfl rfl rfl (Nat.le_of_ble_eq_true rfl) rfl dX1_begin_9 (fun F5_ h6_ k7_ => ?_)
  have kc8_ : ∀ b, b ≠ h0 → F5_ b = F b := fun b q0 => (k7_ b q0).trans (kc4_ b q0)
  refine z_aload_n C dX1_begin_12 rfl 0 rfl ?_
  refine z_iconst C (nI 0) dX1_begin_13 (by decide) ?_
  refine z_put (ref := "Shedwheel$Search") (v := .int (nI 0)) (fs' := [.ref b4, .ref b5, .ref b6, .ref b7, .int (nI 0), .int (nI a), .int (nI (a + b)), .int (nI bs), .int (nI bt), .int (nI bh)]) C hin_X1_begin_X1 tyX1 tyX1_ok nmX1 hL0 h6_ rfl 4 (by decide) (by decide +kernel) (fun _ h9 => h9) rfl rfl rfl (Nat.le_of_ble_eq_true rfl) rfl dX1_begin_14 (fun F9_ h10_ k11_ => ?_)
  have kc12_ : ∀ b, b ≠ h0 → F9_ b = F b := fun b q0 => (k11_ b q0).trans (kc8_ b q0)
  refine z_aload_n C dX1_begin_17 rfl 0 rfl ?_
  refine z_iconst C (nI 0) dX1_begin_18 (by decide) ?_
  refine z_put (ref := "Shedwheel$Search") (v := .int (nI 0)) (fs' := [.ref b4, .ref b5, .ref b6, .ref b7, .int (nI 0), .int (nI a), .int (nI (a + b)), .int (nI 0), .int (nI bt), .int (nI bh)]) C hin_X1_begin_X1 tyX1 tyX1_ok nmX1 hL0 h10_ rfl 7 (by decide) (by decide +kernel) (fun _ h9 => h9) rfl rfl rfl (Nat.le_of_ble_eq_true rfl) rfl dX1_begin_19 (fun F13_ h14_ k15_ => ?_)
  have kc16_ : ∀ b, b ≠ h0 → F13_ b = F b := fun b q0 => (k15_ b q0).trans (kc12_ b q0)
  refine z_vret0 C rfl (by decide) (by decide) dX1_begin_22 ?_
  exact ⟨rfl, rfl, h14_, kc16_⟩

set_option maxRecDepth 100000 in
theorem hin_X1_offer_X1 : ∀ w ∈ u_ws RX1 TX1 10, w ∈ wsX1_offer := by decide +kernel
set_option maxHeartbeats 4000000 in
set_option maxRecDepth 100000 in
theorem c_X1_offer (l : Launch) (hlst : l.stackTraces = false) (G : zGt) (L : List Nat) (F : Nat → va_E) (h0 b4 b5 b6 b7 : Nat) (cnt sf nl bs bt bh : Nat) (hL0 : h0 ∈ L) (hF0 : F h0 = .inr (2, [.ref b4, .ref b5, .ref b6, .ref b7, .int (nI cnt), .int (nI sf), .int (nI nl), .int (nI bs), .int (nI bt), .int (nI bh)])) (f4 f5 f6 f7 : Nat → Int32) (hL4 : b4 ∈ L) (hF4 : F b4 = .inl (G.2.1, 12, .inl f4)) (hL5 : b5 ∈ L) (hF5 : F b5 = .inl (G.2.1, 12, .inl f5)) (hL6 : b6 ∈ L) (hF6 : F b6 = .inl (G.2.1, 12, .inl f6)) (hL7 : b7 ∈ L) (hF7 : F b7 = .inl (G.2.1, 13, .inl f7)) (n45 : b4 ≠ b5) (n46 : b4 ≠ b6) (n47 : b4 ≠ b7) (n56 : b5 ≠ b6) (n57 : b5 ≠ b7) (n67 : b6 ≠ b7) (nu tk hr sm : Nat) (hc : cnt < 12) (hnu : nu < 12) (h7 : f7 cnt = nI sm) : zM l yX1_offer wsX1_offer 1 24 0 0 G L F [.ref h0, .int (nI nu), .int (nI tk), .int (nI hr)] (fun rv L1 F1 => rv = none ∧ L1 = L ∧ F1 b4 = .inl (G.2.1, 12, .inl (upd f4 cnt (nI (2 ^ nu)))) ∧ F1 b5 = .inl (G.2.1, 12, .inl (upd f5 cnt (nI tk))) ∧ F1 b6 = .inl (G.2.1, 12, .inl (upd f6 cnt (nI hr))) ∧ F1 b7 = .inl (G.2.1, 13, .inl (upd f7 (cnt + 1) (nI (sm + tk)))) ∧ F1 h0 = .inr (2, [.ref b4, .ref b5, .ref b6, .ref b7, .int (nI (cnt + 1)), .int (nI (sf)), .int (nI (nl)), .int (nI (bs)), .int (nI (bt)), .int (nI (bh))]) ∧ ∀ b, b ≠ b4 → b ≠ b5 → b ≠ b6 → b ≠ b7 → b ≠ h0 → F1 b = F b) := by
  refine z_of (cc := cX1_offer) (nL := 4) (ret := none) (own := RX1) hlst (by decide +kernel) rfl rfl (Nat.le_of_ble_eq_true rfl) ?_
  intro p e s m below meth c A hnm C
  refine z_lvs (lv' := [(0, .ref h0), (1, .int (nI nu)), (2, .int (nI tk)), (3, .int (nI hr))]) rfl ?_
  refine z_aload_n C dX1_offer_0 rfl 0 rfl ?_
  refine z_get (ref := "Shedwheel$Search") (v := .int (nI cnt)) C hin_X1_offer_X1 hL0 hF0 rfl 4 (by decide) (by decide +kernel) (fun _ h9 => h9) rfl dX1_offer_1 ?_
  refine z_bipush C (nI 12) dX1_offer_4 (by decide) ?_
  refine z_icmp_lt C 10 (((cnt : Nat) : Int) < ((12 : Nat) : Int)) (zi_lt (zi_N (n := cnt) (by omega)) (zi_N (n := 12) (by omega))) dX1_offer_6 (by decide) (fun c1_ => ?_) (fun c1_ => absurd c1_ (by omega))
  refine z_aload_n C dX1_offer_10 rfl 0 rfl ?_
  refine z_get (ref := "Shedwheel$Search") (v := .ref b4) C hin_X1_offer_X1 hL0 hF0 rfl 0 (by decide) (by decide +kernel) (fun _ h9 => h9) rfl dX1_offer_11 ?_
  refine z_aload_n C dX1_offer_14 rfl 0 rfl ?_
  refine z_get (ref := "Shedwheel$Search") (v := .int (nI cnt)) C hin_X1_offer_X1 hL0 hF0 rfl 4 (by decide) (by decide +kernel) (fun _ h9 => h9) rfl dX1_offer_15 ?_
  refine z_iconst C (nI 1) dX1_offer_18 (by decide) ?_
  refine z_iload_n C dX1_offer_19 rfl 1 rfl ?_
  refine z_ishl C (nI (2 ^ nu)) dX1_offer_20 (shl1 (by omega)) ?_
  refine z_iast C hL4 hF4 (by omega) (by omega) dX1_offer_21 (fun F2_ h3_ k4_ => ?_)
  have h5_ : F2_ h0 = .inr (2, [.ref b4, .ref b5, .ref b6, .ref b7, .int (nI cnt), .int (nI sf), .int (nI nl), .int (nI bs), .int (nI bt), .int (nI bh)]) := (k4_ h0 (zne hF0 hF4 rfl)).trans hF0
  have h6_ : F2_ b5 = .inl (G.2.1, 12, .inl f5) := (k4_ b5 (Ne.symm n45)).trans hF5
  have h7_ : F2_ b6 = .inl (G.2.1, 12, .inl f6) := (k4_ b6 (Ne.symm n46)).trans hF6
  have h8_ : F2_ b7 = .inl (G.2.1, 13, .inl f7) := (k4_ b7 (Ne.symm n47)).trans hF7
  have kc9_ : ∀ b, b ≠ b4 → F2_ b = F b := fun b q0 => k4_ b q0
  refine z_aload_n C dX1_offer_22 rfl 0 rfl ?_
  refine z_get (ref := "Shedwheel$Search") (v := .ref b5) C hin_X1_offer_X1 hL0 h5_ rfl 1 (by decide) (by decide +kernel) (fun _ h9 => h9) rfl dX1_offer_23 ?_
  refine z_aload_n C dX1_offer_26 rfl 0 rfl ?_
  refine z_get (ref := "Shedwheel$Search") (v := .int (nI cnt)) C hin_X1_offer_X1 hL0 h5_ rfl 4 (by decide) (by decide +kernel) (fun _ h9 => h9) rfl dX1_offer_27 ?_
  refine z_iload_n C dX1_offer_30 rfl 2 rfl ?_
  refine z_iast C hL5 h6_ (by omega) (by omega) dX1_offer_31 (fun F10_ h11_ k12_ => ?_)
  have h13_ : F10_ h0 = .inr (2, [.ref b4, .ref b5, .ref b6, .ref b7, .int (nI cnt), .int (nI sf), .int (nI nl), .int (nI bs), .int (nI bt), .int (nI bh)]) := (k12_ h0 (zne h5_ h6_ rfl)).trans h5_
  have h14_ : F10_ b4 = .inl (G.2.1, 12, .inl (upd f4 cnt (nI (2 ^ nu)))) := (k12_ b4 n45).trans h3_
  have h15_ : F10_ b6 = .inl (G.2.1, 12, .inl f6) := (k12_ b6 (Ne.symm n56)).trans h7_
  have h16_ : F10_ b7 = .inl (G.2.1, 13, .inl f7) := (k12_ b7 (Ne.symm n57)).trans h8_
  have kc17_ : ∀ b, b ≠ b4 → b ≠ b5 → F10_ b = F b := fun b q0 q1 => (k12_ b q1).trans (kc9_ b q0)
  refine z_aload_n C dX1_offer_32 rfl 0 rfl ?_
  refine z_get (ref := "Shedwheel$Search") (v := .ref b6) C hin_X1_offer_X1 hL0 h13_ rfl 2 (by decide) (by decide +kernel) (fun _ h9 => h9) rfl dX1_offer_33 ?_
  refine z_aload_n C dX1_offer_36 rfl 0 rfl ?_
  refine z_get (ref := "Shedwheel$Search") (v := .int (nI cnt)) C hin_X1_offer_X1 hL0 h13_ rfl 4 (by decide) (by decide +kernel) (fun _ h9 => h9) rfl dX1_offer_37 ?_
  refine z_iload_n C dX1_offer_40 rfl 3 rfl ?_
  refine z_iast C hL6 h15_ (by omega) (by omega) dX1_offer_41 (fun F18_ h19_ k20_ => ?_)
  have h21_ : F18_ h0 = .inr (2, [.ref b4, .ref b5, .ref b6, .ref b7, .int (nI cnt), .int (nI sf), .int (nI nl), .int (nI bs), .int (nI bt), .int (nI bh)]) := (k20_ h0 (zne h13_ h15_ rfl)).trans h13_
  have h22_ : F18_ b4 = .inl (G.2.1, 12, .inl (upd f4 cnt (nI (2 ^ nu)))) := (k20_ b4 n46).trans h14_
  have h23_ : F18_ b5 = .inl (G.2.1, 12, .inl (upd f5 cnt (nI tk))) := (k20_ b5 n56).trans h11_
  have h24_ : F18_ b7 = .inl (G.2.1, 13, .inl f7) := (k20_ b7 (Ne.symm n67)).trans h16_
  have kc25_ : ∀ b, b ≠ b4 → b ≠ b5 → b ≠ b6 → F18_ b = F b := fun b q0 q1 q2 => (k20_ b q2).trans (kc17_ b q0 q1)
  refine z_aload_n C dX1_offer_42 rfl 0 rfl ?_
  refine z_get (ref := "Shedwheel$Search") (v := .ref b7) C hin_X1_offer_X1 hL0 h21_ rfl 3 (by decide) (by decide +kernel) (fun _ h9 => h9) rfl dX1_offer_43 ?_
  refine z_aload_n C dX1_offer_46 rfl 0 rfl ?_
  refine z_get (ref := "Shedwheel$Search") (v := .int (nI cnt)) C hin_X1_offer_X1 hL0 h21_ rfl 4 (by decide) (by decide +kernel) (fun _ h9 => h9) rfl dX1_offer_47 ?_
  refine z_iconst C (nI 1) dX1_offer_50 (by decide) ?_
  refine z_iadd C (nI (cnt + 1)) dX1_offer_51 (nI_add cnt 1) ?_
  refine z_aload_n C dX1_offer_52 rfl 0 rfl ?_
  refine z_get (ref := "Shedwheel$Search") (v := .ref b7) C hin_X1_offer_X1 hL0 h21_ rfl 3 (by decide) (by decide +kernel) (fun _ h9 => h9) rfl dX1_offer_53 ?_
  refine z_aload_n C dX1_offer_56 rfl 0 rfl ?_
  refine z_get (ref := "Shedwheel$Search") (v := .int (nI cnt)) C hin_X1_offer_X1 hL0 h21_ rfl 4 (by decide) (by decide +kernel) (fun _ h9 => h9) rfl dX1_offer_57 ?_
  refine z_iald C hL7 h24_ (by omega) (by omega) dX1_offer_60 (nI sm) (h7) ?_
  refine z_iload_n C dX1_offer_61 rfl 2 rfl ?_
  refine z_iadd C (nI (sm + tk)) dX1_offer_62 (nI_add sm tk) ?_
  refine z_iast C hL7 h24_ (by omega) (by omega) dX1_offer_63 (fun F26_ h27_ k28_ => ?_)
  have h29_ : F26_ h0 = .inr (2, [.ref b4, .ref b5, .ref b6, .ref b7, .int (nI cnt), .int (nI sf), .int (nI nl), .int (nI bs), .int (nI bt), .int (nI bh)]) := (k28_ h0 (zne h21_ h24_ rfl)).trans h21_
  have h30_ : F26_ b4 = .inl (G.2.1, 12, .inl (upd f4 cnt (nI (2 ^ nu)))) := (k28_ b4 n47).trans h22_
  have h31_ : F26_ b5 = .inl (G.2.1, 12, .inl (upd f5 cnt (nI tk))) := (k28_ b5 n57).trans h23_
  have h32_ : F26_ b6 = .inl (G.2.1, 12, .inl (upd f6 cnt (nI hr))) := (k28_ b6 n67).trans h19_
  have kc33_ : ∀ b, b ≠ b4 → b ≠ b5 → b ≠ b6 → b ≠ b7 → F26_ b = F b := fun b q0 q1 q2 q3 => (k28_ b q3).trans (kc25_ b q0 q1 q2)
  refine z_aload_n C dX1_offer_64 rfl 0 rfl ?_
  refine z_dup C dX1_offer_65 rfl ?_
  refine z_get (ref := "Shedwheel$Search") (v := .int (nI cnt)) C hin_X1_offer_X1 hL0 h29_ rfl 4 (by decide) (by decide +kernel) (fun _ h9 => h9) rfl dX1_offer_66 ?_
  refine z_iconst C (nI 1) dX1_offer_69 (by decide) ?_
  refine z_iadd C (nI (cnt + 1)) dX1_offer_70 (nI_add cnt 1) ?_
  refine z_put (ref := "Shedwheel$Search") (v := .int (nI (cnt + 1))) (fs' := [.ref b4, .ref b5, .ref b6, .ref b7, .int (nI (cnt + 1)), .int (nI sf), .int (nI nl), .int (nI bs), .int (nI bt), .int (nI bh)]) C hin_X1_offer_X1 tyX1 tyX1_ok nmX1 hL0 h29_ rfl 4 (by decide) (by decide +kernel) (fun _ h9 => h9) rfl rfl rfl (Nat.le_of_ble_eq_true rfl) rfl dX1_offer_71 (fun F34_ h35_ k36_ => ?_)
  have h37_ : F34_ b4 = .inl (G.2.1, 12, .inl (upd f4 cnt (nI (2 ^ nu)))) := (k36_ b4 (zne h30_ h29_ rfl)).trans h30_
  have h38_ : F34_ b5 = .inl (G.2.1, 12, .inl (upd f5 cnt (nI tk))) := (k36_ b5 (zne h31_ h29_ rfl)).trans h31_
  have h39_ : F34_ b6 = .inl (G.2.1, 12, .inl (upd f6 cnt (nI hr))) := (k36_ b6 (zne h32_ h29_ rfl)).trans h32_
  have h40_ : F34_ b7 = .inl (G.2.1, 13, .inl (upd f7 (cnt + 1) (nI (sm + tk)))) := (k36_ b7 (zne h27_ h29_ rfl)).trans h27_
  have kc41_ : ∀ b, b ≠ b4 → b ≠ b5 → b ≠ b6 → b ≠ b7 → b ≠ h0 → F34_ b = F b := fun b q0 q1 q2 q3 q4 => (k36_ b q4).trans (kc33_ b q0 q1 q2 q3)
  refine z_vret0 C rfl (by decide) (by decide) dX1_offer_74 ?_
  exact ⟨rfl, rfl, h37_, h38_, h39_, h40_, h35_, kc41_⟩

set_option maxRecDepth 100000 in
theorem hin_X1_isBetter_X1 : ∀ w ∈ u_ws RX1 TX1 10, w ∈ wsX1_isBetter := by decide +kernel
set_option maxHeartbeats 4000000 in
set_option maxRecDepth 100000 in
theorem c_X1_isBetter (l : Launch) (hlst : l.stackTraces = false) (G : zGt) (L : List Nat) (F : Nat → va_E) (h0 b4 b5 b6 b7 : Nat) (cnt sf nl bs bt bh : Nat) (hL0 : h0 ∈ L) (hF0 : F h0 = .inr (2, [.ref b4, .ref b5, .ref b6, .ref b7, .int (nI cnt), .int (nI sf), .int (nI nl), .int (nI bs), .int (nI bt), .int (nI bh)])) (xs xt xh : Nat) (hs : xs < 4096) (ht : xt < 1048576) (hh : xh < 1048576) (hbs : bs < 4096) (hbt : bt < 1048576) (hbh : bh < 1048576) (hnl : nl < 1048576) : zM l yX1_isBetter wsX1_isBetter 1 24 0 0 G L F [.ref h0, .int (nI xs), .int (nI xt), .int (nI xh)] (fun rv L1 F1 => rv = some (.int (nI (if keyV nl xt xh xs < keyV nl bt bh bs then 1 else 0))) ∧ L1 = L ∧ F1 = F) := by
  refine z_of (cc := cX1_isBetter) (nL := 5) (ret := (some .boolean)) (own := RX1) hlst (by decide +kernel) rfl rfl (Nat.le_of_ble_eq_true rfl) ?_
  intro p e s m below meth c A hnm C
  refine z_lvs (lv' := [(0, .ref h0), (1, .int (nI xs)), (2, .int (nI xt)), (3, .int (nI xh))]) rfl ?_
  refine z_iload_n C dX1_isBetter_0 rfl 2 rfl ?_
  refine z_aload_n C dX1_isBetter_1 rfl 0 rfl ?_
  refine z_get (ref := "Shedwheel$Search") (v := .int (nI nl)) C hin_X1_isBetter_X1 hL0 hF0 rfl 6 (by decide) (by decide +kernel) (fun _ h9 => h9) rfl dX1_isBetter_2 ?_
  refine z_icmp_gt C 12 (((nl : Nat) : Int) < ((xt : Nat) : Int)) (zi_lt (zi_N (n := nl) (by omega)) (zi_N (n := xt) (by omega))) dX1_isBetter_5 (by decide) (fun c1_ => ?_) (fun c1_ => ?_)
  · -- 5 taken
    refine z_iconst C (nI 0) dX1_isBetter_12 (by decide) ?_
    refine z_istore (lv' := [(4, .int (nI 0)), (0, .ref h0), (1, .int (nI xs)), (2, .int (nI xt)), (3, .int (nI xh))]) C dX1_isBetter_13 (by decide) rfl ?_
    refine z_iload C dX1_isBetter_15 0 rfl ?_
    refine z_aload_n C dX1_isBetter_17 rfl 1 rfl ?_
    refine z_get (ref := "Shedwheel$Search") (v := .int (nI bt)) C hin_X1_isBetter_X1 hL0 hF0 rfl 8 (by decide) (by decide +kernel) (fun _ h9 => h9) rfl dX1_isBetter_18 ?_
    refine z_aload_n C dX1_isBetter_21 rfl 1 rfl ?_
    refine z_get (ref := "Shedwheel$Search") (v := .int (nI nl)) C hin_X1_isBetter_X1 hL0 hF0 rfl 6 (by decide) (by decide +kernel) (fun _ h9 => h9) rfl dX1_isBetter_22 ?_
    refine z_icmp_gt C 32 (((nl : Nat) : Int) < ((bt : Nat) : Int)) (zi_lt (zi_N (n := nl) (by omega)) (zi_N (n := bt) (by omega))) dX1_isBetter_25 (by decide) (fun c2_ => ?_) (fun c2_ => ?_)
    · -- 25 taken
      refine z_iconst C (nI 0) dX1_isBetter_32 (by decide) ?_
      refine z_icmp_eq C 39 (((0 : Nat) : Int) = ((0 : Nat) : Int)) (zi_eq (zi_N (n := 0) (by omega)) (zi_N (n := 0) (by omega))) dX1_isBetter_33 (by decide) (fun c3_ => ?_) (fun c3_ => absurd c3_ (by omega))
      refine z_iload_n C dX1_isBetter_39 rfl 3 rfl ?_
      refine z_aload_n C dX1_isBetter_40 rfl 1 rfl ?_
      refine z_get (ref := "Shedwheel$Search") (v := .int (nI bt)) C hin_X1_isBetter_X1 hL0 hF0 rfl 8 (by decide) (by decide +kernel) (fun _ h9 => h9) rfl dX1_isBetter_41 ?_
      refine z_icmp_ne C 69 (((xt : Nat) : Int) = ((bt : Nat) : Int)) (zi_eq (zi_N (n := xt) (by omega)) (zi_N (n := bt) (by omega))) dX1_isBetter_44 (by decide) (fun c4_ => ?_) (fun c4_ => ?_)
      · -- 44 taken
        refine z_iload C dX1_isBetter_69 0 rfl ?_
        refine z_if_eq C 112 (((0 : Nat) : Int) = (0 : Int)) (zi_eq (zi_N (n := 0) (by omega)) zi_0) dX1_isBetter_71 (by decide) (fun c5_ => ?_) (fun c5_ => absurd c5_ (by omega))
        refine z_iload_n C dX1_isBetter_112 rfl 3 rfl ?_
        refine z_aload_n C dX1_isBetter_113 rfl 1 rfl ?_
        refine z_get (ref := "Shedwheel$Search") (v := .int (nI bt)) C hin_X1_isBetter_X1 hL0 hF0 rfl 8 (by decide) (by decide +kernel) (fun _ h9 => h9) rfl dX1_isBetter_114 ?_
        refine z_icmp_eq C 136 (((xt : Nat) : Int) = ((bt : Nat) : Int)) (zi_eq (zi_N (n := xt) (by omega)) (zi_N (n := bt) (by omega))) dX1_isBetter_117 (by decide) (fun c6_ => ?_) (fun c6_ => ?_)
        · -- 117 taken
          refine z_iload_n C dX1_isBetter_136 rfl 4 rfl ?_
          refine z_aload_n C dX1_isBetter_137 rfl 1 rfl ?_
          refine z_get (ref := "Shedwheel$Search") (v := .int (nI bh)) C hin_X1_isBetter_X1 hL0 hF0 rfl 9 (by decide) (by decide +kernel) (fun _ h9 => h9) rfl dX1_isBetter_138 ?_
          refine z_icmp_ge C 148 (((bh : Nat) : Int) ≤ ((xh : Nat) : Int)) (zi_le (zi_N (n := bh) (by omega)) (zi_N (n := xh) (by omega))) dX1_isBetter_141 (by decide) (fun c7_ => ?_) (fun c7_ => ?_)
          · -- 141 taken
            refine z_iconst C (nI 0) dX1_isBetter_148 (by decide) ?_
            refine z_iret0 C rfl rfl (by decide) (by decide) dX1_isBetter_149 ?_
            exact ⟨by rw [if_neg (by unfold keyV; split <;> split <;> omega)], rfl, rfl⟩
          · -- 141 not taken
            refine z_iconst C (nI 1) dX1_isBetter_144 (by decide) ?_
            refine z_goto C 149 dX1_isBetter_145 (by decide) ?_
            refine z_iret0 C rfl rfl (by decide) (by decide) dX1_isBetter_149 ?_
            exact ⟨by rw [if_pos (by unfold keyV; split <;> split <;> omega)], rfl, rfl⟩
        · -- 117 not taken
          refine z_iload_n C dX1_isBetter_120 rfl 3 rfl ?_
          refine z_aload_n C dX1_isBetter_121 rfl 1 rfl ?_
          refine z_get (ref := "Shedwheel$Search") (v := .int (nI bt)) C hin_X1_isBetter_X1 hL0 hF0 rfl 8 (by decide) (by decide +kernel) (fun _ h9 => h9) rfl dX1_isBetter_122 ?_
          refine z_icmp_ge C 132 (((bt : Nat) : Int) ≤ ((xt : Nat) : Int)) (zi_le (zi_N (n := bt) (by omega)) (zi_N (n := xt) (by omega))) dX1_isBetter_125 (by decide) (fun c8_ => ?_) (fun c8_ => ?_)
          · -- 125 taken
            refine z_iconst C (nI 0) dX1_isBetter_132 (by decide) ?_
            refine z_goto C 149 dX1_isBetter_133 (by decide) ?_
            refine z_iret0 C rfl rfl (by decide) (by decide) dX1_isBetter_149 ?_
            exact ⟨by rw [if_neg (by unfold keyV; split <;> split <;> omega)], rfl, rfl⟩
          · -- 125 not taken
            refine z_iconst C (nI 1) dX1_isBetter_128 (by decide) ?_
            refine z_goto C 149 dX1_isBetter_129 (by decide) ?_
            refine z_iret0 C rfl rfl (by decide) (by decide) dX1_isBetter_149 ?_
            exact ⟨by rw [if_pos (by unfold keyV; split <;> split <;> omega)], rfl, rfl⟩
      · -- 44 not taken
        refine z_iload_n C dX1_isBetter_47 rfl 4 rfl ?_
        refine z_aload_n C dX1_isBetter_48 rfl 1 rfl ?_
        refine z_get (ref := "Shedwheel$Search") (v := .int (nI bh)) C hin_X1_isBetter_X1 hL0 hF0 rfl 9 (by decide) (by decide +kernel) (fun _ h9 => h9) rfl dX1_isBetter_49 ?_
        refine z_icmp_ne C 69 (((xh : Nat) : Int) = ((bh : Nat) : Int)) (zi_eq (zi_N (n := xh) (by omega)) (zi_N (n := bh) (by omega))) dX1_isBetter_52 (by decide) (fun c9_ => ?_) (fun c9_ => ?_)
        · -- 52 taken
          refine z_iload C dX1_isBetter_69 0 rfl ?_
          refine z_if_eq C 112 (((0 : Nat) : Int) = (0 : Int)) (zi_eq (zi_N (n := 0) (by omega)) zi_0) dX1_isBetter_71 (by decide) (fun c10_ => ?_) (fun c10_ => absurd c10_ (by omega))
          refine z_iload_n C dX1_isBetter_112 rfl 3 rfl ?_
          refine z_aload_n C dX1_isBetter_113 rfl 1 rfl ?_
          refine z_get (ref := "Shedwheel$Search") (v := .int (nI bt)) C hin_X1_isBetter_X1 hL0 hF0 rfl 8 (by decide) (by decide +kernel) (fun _ h9 => h9) rfl dX1_isBetter_114 ?_
          refine z_icmp_eq C 136 (((xt : Nat) : Int) = ((bt : Nat) : Int)) (zi_eq (zi_N (n := xt) (by omega)) (zi_N (n := bt) (by omega))) dX1_isBetter_117 (by decide) (fun c11_ => ?_) (fun c11_ => ?_)
          · -- 117 taken
            refine z_iload_n C dX1_isBetter_136 rfl 4 rfl ?_
            refine z_aload_n C dX1_isBetter_137 rfl 1 rfl ?_
            refine z_get (ref := "Shedwheel$Search") (v := .int (nI bh)) C hin_X1_isBetter_X1 hL0 hF0 rfl 9 (by decide) (by decide +kernel) (fun _ h9 => h9) rfl dX1_isBetter_138 ?_
            refine z_icmp_ge C 148 (((bh : Nat) : Int) ≤ ((xh : Nat) : Int)) (zi_le (zi_N (n := bh) (by omega)) (zi_N (n := xh) (by omega))) dX1_isBetter_141 (by decide) (fun c12_ => ?_) (fun c12_ => ?_)
            · -- 141 taken
              refine z_iconst C (nI 0) dX1_isBetter_148 (by decide) ?_
              refine z_iret0 C rfl rfl (by decide) (by decide) dX1_isBetter_149 ?_
              exact ⟨by rw [if_neg (by unfold keyV; split <;> split <;> omega)], rfl, rfl⟩
            · -- 141 not taken
              refine z_iconst C (nI 1) dX1_isBetter_144 (by decide) ?_
              refine z_goto C 149 dX1_isBetter_145 (by decide) ?_
              refine z_iret0 C rfl rfl (by decide) (by decide) dX1_isBetter_149 ?_
              exact ⟨by rw [if_pos (by unfold keyV; split <;> split <;> omega)], rfl, rfl⟩
          · -- 117 not taken
            refine z_iload_n C dX1_isBetter_120 rfl 3 rfl ?_
            refine z_aload_n C dX1_isBetter_121 rfl 1 rfl ?_
            refine z_get (ref := "Shedwheel$Search") (v := .int (nI bt)) C hin_X1_isBetter_X1 hL0 hF0 rfl 8 (by decide) (by decide +kernel) (fun _ h9 => h9) rfl dX1_isBetter_122 ?_
            refine z_icmp_ge C 132 (((bt : Nat) : Int) ≤ ((xt : Nat) : Int)) (zi_le (zi_N (n := bt) (by omega)) (zi_N (n := xt) (by omega))) dX1_isBetter_125 (by decide) (fun c13_ => ?_) (fun c13_ => ?_)
            · -- 125 taken
              refine z_iconst C (nI 0) dX1_isBetter_132 (by decide) ?_
              refine z_goto C 149 dX1_isBetter_133 (by decide) ?_
              refine z_iret0 C rfl rfl (by decide) (by decide) dX1_isBetter_149 ?_
              exact ⟨by rw [if_neg (by unfold keyV; split <;> split <;> omega)], rfl, rfl⟩
            · -- 125 not taken
              refine z_iconst C (nI 1) dX1_isBetter_128 (by decide) ?_
              refine z_goto C 149 dX1_isBetter_129 (by decide) ?_
              refine z_iret0 C rfl rfl (by decide) (by decide) dX1_isBetter_149 ?_
              exact ⟨by rw [if_pos (by unfold keyV; split <;> split <;> omega)], rfl, rfl⟩
        · -- 52 not taken
          refine z_iload_n C dX1_isBetter_55 rfl 2 rfl ?_
          refine z_aload_n C dX1_isBetter_56 rfl 1 rfl ?_
          refine z_get (ref := "Shedwheel$Search") (v := .int (nI bs)) C hin_X1_isBetter_X1 hL0 hF0 rfl 7 (by decide) (by decide +kernel) (fun _ h9 => h9) rfl dX1_isBetter_57 ?_
          refine z_icmp_ge C 67 (((bs : Nat) : Int) ≤ ((xs : Nat) : Int)) (zi_le (zi_N (n := bs) (by omega)) (zi_N (n := xs) (by omega))) dX1_isBetter_60 (by decide) (fun c14_ => ?_) (fun c14_ => ?_)
          · -- 60 taken
            refine z_iconst C (nI 0) dX1_isBetter_67 (by decide) ?_
            refine z_iret0 C rfl rfl (by decide) (by decide) dX1_isBetter_68 ?_
            exact ⟨by rw [if_neg (by unfold keyV; split <;> split <;> omega)], rfl, rfl⟩
          · -- 60 not taken
            refine z_iconst C (nI 1) dX1_isBetter_63 (by decide) ?_
            refine z_goto C 68 dX1_isBetter_64 (by decide) ?_
            refine z_iret0 C rfl rfl (by decide) (by decide) dX1_isBetter_68 ?_
            exact ⟨by rw [if_pos (by unfold keyV; split <;> split <;> omega)], rfl, rfl⟩
    · -- 25 not taken
      refine z_iconst C (nI 1) dX1_isBetter_28 (by decide) ?_
      refine z_goto C 33 dX1_isBetter_29 (by decide) ?_
      refine z_icmp_eq C 39 (((0 : Nat) : Int) = ((1 : Nat) : Int)) (zi_eq (zi_N (n := 0) (by omega)) (zi_N (n := 1) (by omega))) dX1_isBetter_33 (by decide) (fun c15_ => absurd c15_ (by omega)) (fun c15_ => ?_)
      refine z_iload C dX1_isBetter_36 0 rfl ?_
      refine z_iret0 C rfl rfl (by decide) (by decide) dX1_isBetter_38 ?_
      exact ⟨by rw [if_neg (by unfold keyV; split <;> split <;> omega)], rfl, rfl⟩
  · -- 5 not taken
    refine z_iconst C (nI 1) dX1_isBetter_8 (by decide) ?_
    refine z_goto C 13 dX1_isBetter_9 (by decide) ?_
    refine z_istore (lv' := [(4, .int (nI 1)), (0, .ref h0), (1, .int (nI xs)), (2, .int (nI xt)), (3, .int (nI xh))]) C dX1_isBetter_13 (by decide) rfl ?_
    refine z_iload C dX1_isBetter_15 0 rfl ?_
    refine z_aload_n C dX1_isBetter_17 rfl 1 rfl ?_
    refine z_get (ref := "Shedwheel$Search") (v := .int (nI bt)) C hin_X1_isBetter_X1 hL0 hF0 rfl 8 (by decide) (by decide +kernel) (fun _ h9 => h9) rfl dX1_isBetter_18 ?_
    refine z_aload_n C dX1_isBetter_21 rfl 1 rfl ?_
    refine z_get (ref := "Shedwheel$Search") (v := .int (nI nl)) C hin_X1_isBetter_X1 hL0 hF0 rfl 6 (by decide) (by decide +kernel) (fun _ h9 => h9) rfl dX1_isBetter_22 ?_
    refine z_icmp_gt C 32 (((nl : Nat) : Int) < ((bt : Nat) : Int)) (zi_lt (zi_N (n := nl) (by omega)) (zi_N (n := bt) (by omega))) dX1_isBetter_25 (by decide) (fun c16_ => ?_) (fun c16_ => ?_)
    · -- 25 taken
      refine z_iconst C (nI 0) dX1_isBetter_32 (by decide) ?_
      refine z_icmp_eq C 39 (((1 : Nat) : Int) = ((0 : Nat) : Int)) (zi_eq (zi_N (n := 1) (by omega)) (zi_N (n := 0) (by omega))) dX1_isBetter_33 (by decide) (fun c17_ => absurd c17_ (by omega)) (fun c17_ => ?_)
      refine z_iload C dX1_isBetter_36 0 rfl ?_
      refine z_iret0 C rfl rfl (by decide) (by decide) dX1_isBetter_38 ?_
      exact ⟨by rw [if_pos (by unfold keyV; split <;> split <;> omega)], rfl, rfl⟩
    · -- 25 not taken
      refine z_iconst C (nI 1) dX1_isBetter_28 (by decide) ?_
      refine z_goto C 33 dX1_isBetter_29 (by decide) ?_
      refine z_icmp_eq C 39 (((1 : Nat) : Int) = ((1 : Nat) : Int)) (zi_eq (zi_N (n := 1) (by omega)) (zi_N (n := 1) (by omega))) dX1_isBetter_33 (by decide) (fun c18_ => ?_) (fun c18_ => absurd c18_ (by omega))
      refine z_iload_n C dX1_isBetter_39 rfl 3 rfl ?_
      refine z_aload_n C dX1_isBetter_40 rfl 1 rfl ?_
      refine z_get (ref := "Shedwheel$Search") (v := .int (nI bt)) C hin_X1_isBetter_X1 hL0 hF0 rfl 8 (by decide) (by decide +kernel) (fun _ h9 => h9) rfl dX1_isBetter_41 ?_
      refine z_icmp_ne C 69 (((xt : Nat) : Int) = ((bt : Nat) : Int)) (zi_eq (zi_N (n := xt) (by omega)) (zi_N (n := bt) (by omega))) dX1_isBetter_44 (by decide) (fun c19_ => ?_) (fun c19_ => ?_)
      · -- 44 taken
        refine z_iload C dX1_isBetter_69 0 rfl ?_
        refine z_if_eq C 112 (((1 : Nat) : Int) = (0 : Int)) (zi_eq (zi_N (n := 1) (by omega)) zi_0) dX1_isBetter_71 (by decide) (fun c20_ => absurd c20_ (by omega)) (fun c20_ => ?_)
        refine z_iload_n C dX1_isBetter_74 rfl 4 rfl ?_
        refine z_aload_n C dX1_isBetter_75 rfl 1 rfl ?_
        refine z_get (ref := "Shedwheel$Search") (v := .int (nI bh)) C hin_X1_isBetter_X1 hL0 hF0 rfl 9 (by decide) (by decide +kernel) (fun _ h9 => h9) rfl dX1_isBetter_76 ?_
        refine z_icmp_eq C 98 (((xh : Nat) : Int) = ((bh : Nat) : Int)) (zi_eq (zi_N (n := xh) (by omega)) (zi_N (n := bh) (by omega))) dX1_isBetter_79 (by decide) (fun c21_ => ?_) (fun c21_ => ?_)
        · -- 79 taken
          refine z_iload_n C dX1_isBetter_98 rfl 3 rfl ?_
          refine z_aload_n C dX1_isBetter_99 rfl 1 rfl ?_
          refine z_get (ref := "Shedwheel$Search") (v := .int (nI bt)) C hin_X1_isBetter_X1 hL0 hF0 rfl 8 (by decide) (by decide +kernel) (fun _ h9 => h9) rfl dX1_isBetter_100 ?_
          refine z_icmp_ge C 110 (((bt : Nat) : Int) ≤ ((xt : Nat) : Int)) (zi_le (zi_N (n := bt) (by omega)) (zi_N (n := xt) (by omega))) dX1_isBetter_103 (by decide) (fun c22_ => ?_) (fun c22_ => ?_)
          · -- 103 taken
            refine z_iconst C (nI 0) dX1_isBetter_110 (by decide) ?_
            refine z_iret0 C rfl rfl (by decide) (by decide) dX1_isBetter_111 ?_
            exact ⟨by rw [if_neg (by unfold keyV; split <;> split <;> omega)], rfl, rfl⟩
          · -- 103 not taken
            refine z_iconst C (nI 1) dX1_isBetter_106 (by decide) ?_
            refine z_goto C 111 dX1_isBetter_107 (by decide) ?_
            refine z_iret0 C rfl rfl (by decide) (by decide) dX1_isBetter_111 ?_
            exact ⟨by rw [if_pos (by unfold keyV; split <;> split <;> omega)], rfl, rfl⟩
        · -- 79 not taken
          refine z_iload_n C dX1_isBetter_82 rfl 4 rfl ?_
          refine z_aload_n C dX1_isBetter_83 rfl 1 rfl ?_
          refine z_get (ref := "Shedwheel$Search") (v := .int (nI bh)) C hin_X1_isBetter_X1 hL0 hF0 rfl 9 (by decide) (by decide +kernel) (fun _ h9 => h9) rfl dX1_isBetter_84 ?_
          refine z_icmp_ge C 94 (((bh : Nat) : Int) ≤ ((xh : Nat) : Int)) (zi_le (zi_N (n := bh) (by omega)) (zi_N (n := xh) (by omega))) dX1_isBetter_87 (by decide) (fun c23_ => ?_) (fun c23_ => ?_)
          · -- 87 taken
            refine z_iconst C (nI 0) dX1_isBetter_94 (by decide) ?_
            refine z_goto C 111 dX1_isBetter_95 (by decide) ?_
            refine z_iret0 C rfl rfl (by decide) (by decide) dX1_isBetter_111 ?_
            exact ⟨by rw [if_neg (by unfold keyV; split <;> split <;> omega)], rfl, rfl⟩
          · -- 87 not taken
            refine z_iconst C (nI 1) dX1_isBetter_90 (by decide) ?_
            refine z_goto C 111 dX1_isBetter_91 (by decide) ?_
            refine z_iret0 C rfl rfl (by decide) (by decide) dX1_isBetter_111 ?_
            exact ⟨by rw [if_pos (by unfold keyV; split <;> split <;> omega)], rfl, rfl⟩
      · -- 44 not taken
        refine z_iload_n C dX1_isBetter_47 rfl 4 rfl ?_
        refine z_aload_n C dX1_isBetter_48 rfl 1 rfl ?_
        refine z_get (ref := "Shedwheel$Search") (v := .int (nI bh)) C hin_X1_isBetter_X1 hL0 hF0 rfl 9 (by decide) (by decide +kernel) (fun _ h9 => h9) rfl dX1_isBetter_49 ?_
        refine z_icmp_ne C 69 (((xh : Nat) : Int) = ((bh : Nat) : Int)) (zi_eq (zi_N (n := xh) (by omega)) (zi_N (n := bh) (by omega))) dX1_isBetter_52 (by decide) (fun c24_ => ?_) (fun c24_ => ?_)
        · -- 52 taken
          refine z_iload C dX1_isBetter_69 0 rfl ?_
          refine z_if_eq C 112 (((1 : Nat) : Int) = (0 : Int)) (zi_eq (zi_N (n := 1) (by omega)) zi_0) dX1_isBetter_71 (by decide) (fun c25_ => absurd c25_ (by omega)) (fun c25_ => ?_)
          refine z_iload_n C dX1_isBetter_74 rfl 4 rfl ?_
          refine z_aload_n C dX1_isBetter_75 rfl 1 rfl ?_
          refine z_get (ref := "Shedwheel$Search") (v := .int (nI bh)) C hin_X1_isBetter_X1 hL0 hF0 rfl 9 (by decide) (by decide +kernel) (fun _ h9 => h9) rfl dX1_isBetter_76 ?_
          refine z_icmp_eq C 98 (((xh : Nat) : Int) = ((bh : Nat) : Int)) (zi_eq (zi_N (n := xh) (by omega)) (zi_N (n := bh) (by omega))) dX1_isBetter_79 (by decide) (fun c26_ => ?_) (fun c26_ => ?_)
          · -- 79 taken
            refine z_iload_n C dX1_isBetter_98 rfl 3 rfl ?_
            refine z_aload_n C dX1_isBetter_99 rfl 1 rfl ?_
            refine z_get (ref := "Shedwheel$Search") (v := .int (nI bt)) C hin_X1_isBetter_X1 hL0 hF0 rfl 8 (by decide) (by decide +kernel) (fun _ h9 => h9) rfl dX1_isBetter_100 ?_
            refine z_icmp_ge C 110 (((bt : Nat) : Int) ≤ ((xt : Nat) : Int)) (zi_le (zi_N (n := bt) (by omega)) (zi_N (n := xt) (by omega))) dX1_isBetter_103 (by decide) (fun c27_ => ?_) (fun c27_ => ?_)
            · -- 103 taken
              refine z_iconst C (nI 0) dX1_isBetter_110 (by decide) ?_
              refine z_iret0 C rfl rfl (by decide) (by decide) dX1_isBetter_111 ?_
              exact ⟨by rw [if_neg (by unfold keyV; split <;> split <;> omega)], rfl, rfl⟩
            · -- 103 not taken
              refine z_iconst C (nI 1) dX1_isBetter_106 (by decide) ?_
              refine z_goto C 111 dX1_isBetter_107 (by decide) ?_
              refine z_iret0 C rfl rfl (by decide) (by decide) dX1_isBetter_111 ?_
              exact ⟨by rw [if_pos (by unfold keyV; split <;> split <;> omega)], rfl, rfl⟩
          · -- 79 not taken
            refine z_iload_n C dX1_isBetter_82 rfl 4 rfl ?_
            refine z_aload_n C dX1_isBetter_83 rfl 1 rfl ?_
            refine z_get (ref := "Shedwheel$Search") (v := .int (nI bh)) C hin_X1_isBetter_X1 hL0 hF0 rfl 9 (by decide) (by decide +kernel) (fun _ h9 => h9) rfl dX1_isBetter_84 ?_
            refine z_icmp_ge C 94 (((bh : Nat) : Int) ≤ ((xh : Nat) : Int)) (zi_le (zi_N (n := bh) (by omega)) (zi_N (n := xh) (by omega))) dX1_isBetter_87 (by decide) (fun c28_ => ?_) (fun c28_ => ?_)
            · -- 87 taken
              refine z_iconst C (nI 0) dX1_isBetter_94 (by decide) ?_
              refine z_goto C 111 dX1_isBetter_95 (by decide) ?_
              refine z_iret0 C rfl rfl (by decide) (by decide) dX1_isBetter_111 ?_
              exact ⟨by rw [if_neg (by unfold keyV; split <;> split <;> omega)], rfl, rfl⟩
            · -- 87 not taken
              refine z_iconst C (nI 1) dX1_isBetter_90 (by decide) ?_
              refine z_goto C 111 dX1_isBetter_91 (by decide) ?_
              refine z_iret0 C rfl rfl (by decide) (by decide) dX1_isBetter_111 ?_
              exact ⟨by rw [if_pos (by unfold keyV; split <;> split <;> omega)], rfl, rfl⟩
        · -- 52 not taken
          refine z_iload_n C dX1_isBetter_55 rfl 2 rfl ?_
          refine z_aload_n C dX1_isBetter_56 rfl 1 rfl ?_
          refine z_get (ref := "Shedwheel$Search") (v := .int (nI bs)) C hin_X1_isBetter_X1 hL0 hF0 rfl 7 (by decide) (by decide +kernel) (fun _ h9 => h9) rfl dX1_isBetter_57 ?_
          refine z_icmp_ge C 67 (((bs : Nat) : Int) ≤ ((xs : Nat) : Int)) (zi_le (zi_N (n := bs) (by omega)) (zi_N (n := xs) (by omega))) dX1_isBetter_60 (by decide) (fun c29_ => ?_) (fun c29_ => ?_)
          · -- 60 taken
            refine z_iconst C (nI 0) dX1_isBetter_67 (by decide) ?_
            refine z_iret0 C rfl rfl (by decide) (by decide) dX1_isBetter_68 ?_
            exact ⟨by rw [if_neg (by unfold keyV; split <;> split <;> omega)], rfl, rfl⟩
          · -- 60 not taken
            refine z_iconst C (nI 1) dX1_isBetter_63 (by decide) ?_
            refine z_goto C 68 dX1_isBetter_64 (by decide) ?_
            refine z_iret0 C rfl rfl (by decide) (by decide) dX1_isBetter_68 ?_
            exact ⟨by rw [if_pos (by unfold keyV; split <;> split <;> omega)], rfl, rfl⟩

set_option maxRecDepth 100000 in
theorem hin_X1_weigh_X1 : ∀ w ∈ u_ws RX1 TX1 10, w ∈ wsX1_weigh := by decide +kernel
set_option maxHeartbeats 4000000 in
set_option maxRecDepth 100000 in
theorem c_X1_weigh (l : Launch) (hlst : l.stackTraces = false) (G : zGt) (L : List Nat) (F : Nat → va_E) (h0 b4 b5 b6 b7 : Nat) (cnt sf nl bs bt bh : Nat) (hL0 : h0 ∈ L) (hF0 : F h0 = .inr (2, [.ref b4, .ref b5, .ref b6, .ref b7, .int (nI cnt), .int (nI sf), .int (nI nl), .int (nI bs), .int (nI bt), .int (nI bh)])) (xs xt xh : Nat) (hs : xs < 4096) (ht : xt < 1048576) (hh : xh < 1048576) (hbs : bs < 4096) (hbt : bt < 1048576) (hbh : bh < 1048576) (hnl : nl < 1048576) : zM l yX1_weigh wsX1_weigh 2 48 0 0 G L F [.ref h0, .int (nI xs), .int (nI xt), .int (nI xh)] (fun rv L1 F1 => rv = none ∧ L1 = L ∧ F1 h0 = .inr (2, [.ref b4, .ref b5, .ref b6, .ref b7, .int (nI (cnt)), .int (nI (sf)), .int (nI (nl)), .int (nI ((wgV nl (xs, xt, xh) (bs, bt, bh)).1)), .int (nI ((wgV nl (xs, xt, xh) (bs, bt, bh)).2.1)), .int (nI ((wgV nl (xs, xt, xh) (bs, bt, bh)).2.2))]) ∧ ∀ b, b ≠ h0 → F1 b = F b) := by
  refine z_of (cc := cX1_weigh) (nL := 4) (ret := none) (own := RX1) hlst (by decide +kernel) rfl rfl (Nat.le_of_ble_eq_true rfl) ?_
  intro p e s m below meth c A hnm C
  refine z_lvs (lv' := [(0, .ref h0), (1, .int (nI xs)), (2, .int (nI xt)), (3, .int (nI xh))]) rfl ?_
  refine z_aload_n C dX1_weigh_0 rfl 0 rfl ?_
  refine z_get (ref := "Shedwheel$Search") (v := .int (nI bs)) C hin_X1_weigh_X1 hL0 hF0 rfl 7 (by decide) (by decide +kernel) (fun _ h9 => h9) rfl dX1_weigh_1 ?_
  refine z_if_eq C 17 (((bs : Nat) : Int) = (0 : Int)) (zi_eq (zi_N (n := bs) (by omega)) zi_0) dX1_weigh_4 (by decide) (fun c1_ => ?_) (fun c1_ => ?_)
  · -- 4 taken
    refine z_aload_n C dX1_weigh_17 rfl 0 rfl ?_
    refine z_iload_n C dX1_weigh_18 rfl 1 rfl ?_
    refine z_put (ref := "Shedwheel$Search") (v := .int (nI xs)) (fs' := [.ref b4, .ref b5, .ref b6, .ref b7, .int (nI cnt), .int (nI sf), .int (nI nl), .int (nI xs), .int (nI bt), .int (nI bh)]) C hin_X1_weigh_X1 tyX1 tyX1_ok nmX1 hL0 hF0 rfl 7 (by decide) (by decide +kernel) (fun _ h9 => h9) rfl rfl rfl (Nat.le_of_ble_eq_true rfl) rfl dX1_weigh_19 (fun F2_ h3_ k4_ => ?_)
    have kc5_ : ∀ b, b ≠ h0 → F2_ b = F b := fun b q0 => k4_ b q0
    refine z_aload_n C dX1_weigh_22 rfl 0 rfl ?_
    refine z_iload_n C dX1_weigh_23 rfl 2 rfl ?_
    refine z_put (ref := "Shedwheel$Search") (v := .int (nI xt)) (fs' := [.ref b4, .ref b5, .ref b6, .ref b7, .int (nI cnt), .int (nI sf), .int (nI nl), .int (nI xs), .int (nI xt), .int (nI bh)]) C hin_X1_weigh_X1 tyX1 tyX1_ok nmX1 hL0 h3_ rfl 8 (by decide) (by decide +kernel) (fun _ h9 => h9) rfl rfl rfl (Nat.le_of_ble_eq_true rfl) rfl dX1_weigh_24 (fun F6_ h7_ k8_ => ?_)
    have kc9_ : ∀ b, b ≠ h0 → F6_ b = F b := fun b q0 => (k8_ b q0).trans (kc5_ b q0)
    refine z_aload_n C dX1_weigh_27 rfl 0 rfl ?_
    refine z_iload_n C dX1_weigh_28 rfl 3 rfl ?_
    refine z_put (ref := "Shedwheel$Search") (v := .int (nI xh)) (fs' := [.ref b4, .ref b5, .ref b6, .ref b7, .int (nI cnt), .int (nI sf), .int (nI nl), .int (nI xs), .int (nI xt), .int (nI xh)]) C hin_X1_weigh_X1 tyX1 tyX1_ok nmX1 hL0 h7_ rfl 9 (by decide) (by decide +kernel) (fun _ h9 => h9) rfl rfl rfl (Nat.le_of_ble_eq_true rfl) rfl dX1_weigh_29 (fun F10_ h11_ k12_ => ?_)
    have kc13_ : ∀ b, b ≠ h0 → F10_ b = F b := fun b q0 => (k12_ b q0).trans (kc9_ b q0)
    refine z_vret0 C rfl (by decide) (by decide) dX1_weigh_32 ?_
    have e9 : (wgV nl (xs, xt, xh) (bs, bt, bh)) = (xs, xt, xh) := by rw [wgV, if_pos (by dsimp only; omega)]
    exact ⟨rfl, rfl, by rw [e9]; exact h11_, kc13_⟩
  · -- 4 not taken
    refine z_aload_n C dX1_weigh_7 rfl 0 rfl ?_
    refine z_iload_n C dX1_weigh_8 rfl 1 rfl ?_
    refine z_iload_n C dX1_weigh_9 rfl 2 rfl ?_
    refine z_iload_n C dX1_weigh_10 rfl 3 rfl ?_
    refine z_callV (As := [.int (nI xs), .int (nI xt), .int (nI xh)]) (st := []) (mc := 0) (ms := 0) C hL0 hF0 rfl (c_X1_isBetter l hlst G L F h0 b4 b5 b6 b7 cnt sf nl bs bt bh hL0 hF0 xs xt xh (by omega) (by omega) (by omega) (by omega) (by omega) (by omega) (by omega)) (cwV 3 C.1.2.2.2.2 gX1_weigh_X1_isBetter rfl rfl rfl (by decide +kernel) ⟨Nat.le_of_ble_eq_true rfl, Nat.le_of_ble_eq_true rfl⟩) rfl (Nat.le_of_ble_eq_true rfl) ⟨Nat.le_of_ble_eq_true rfl, Nat.le_of_ble_eq_true rfl⟩ dX1_weigh_11 (z_p ?_)
    refine z_stk (st' := [.int (nI (if keyV nl xt xh xs < keyV nl bt bh bs then 1 else 0))]) rfl ?_
    refine z_if_eq C 32 (¬ (keyV nl xt xh xs < keyV nl bt bh bs)) (zif_iff) dX1_weigh_14 (by decide) (fun c14_ => ?_) (fun c14_ => ?_)
    · -- 14 taken
      refine z_vret0 C rfl (by decide) (by decide) dX1_weigh_32 ?_
      have e9 : (wgV nl (xs, xt, xh) (bs, bt, bh)) = (bs, bt, bh) := by rw [wgV, if_neg (by dsimp only; omega)]
      exact ⟨rfl, rfl, by rw [e9]; exact hF0, fun _ _ => rfl⟩
    · -- 14 not taken
      refine z_aload_n C dX1_weigh_17 rfl 0 rfl ?_
      refine z_iload_n C dX1_weigh_18 rfl 1 rfl ?_
      refine z_put (ref := "Shedwheel$Search") (v := .int (nI xs)) (fs' := [.ref b4, .ref b5, .ref b6, .ref b7, .int (nI cnt), .int (nI sf), .int (nI nl), .int (nI xs), .int (nI bt), .int (nI bh)]) C hin_X1_weigh_X1 tyX1 tyX1_ok nmX1 hL0 hF0 rfl 7 (by decide) (by decide +kernel) (fun _ h9 => h9) rfl rfl rfl (Nat.le_of_ble_eq_true rfl) rfl dX1_weigh_19 (fun F15_ h16_ k17_ => ?_)
      have kc18_ : ∀ b, b ≠ h0 → F15_ b = F b := fun b q0 => k17_ b q0
      refine z_aload_n C dX1_weigh_22 rfl 0 rfl ?_
      refine z_iload_n C dX1_weigh_23 rfl 2 rfl ?_
      refine z_put (ref := "Shedwheel$Search") (v := .int (nI xt)) (fs' := [.ref b4, .ref b5, .ref b6, .ref b7, .int (nI cnt), .int (nI sf), .int (nI nl), .int (nI xs), .int (nI xt), .int (nI bh)]) C hin_X1_weigh_X1 tyX1 tyX1_ok nmX1 hL0 h16_ rfl 8 (by decide) (by decide +kernel) (fun _ h9 => h9) rfl rfl rfl (Nat.le_of_ble_eq_true rfl) rfl dX1_weigh_24 (fun F19_ h20_ k21_ => ?_)
      have kc22_ : ∀ b, b ≠ h0 → F19_ b = F b := fun b q0 => (k21_ b q0).trans (kc18_ b q0)
      refine z_aload_n C dX1_weigh_27 rfl 0 rfl ?_
      refine z_iload_n C dX1_weigh_28 rfl 3 rfl ?_
      refine z_put (ref := "Shedwheel$Search") (v := .int (nI xh)) (fs' := [.ref b4, .ref b5, .ref b6, .ref b7, .int (nI cnt), .int (nI sf), .int (nI nl), .int (nI xs), .int (nI xt), .int (nI xh)]) C hin_X1_weigh_X1 tyX1 tyX1_ok nmX1 hL0 h20_ rfl 9 (by decide) (by decide +kernel) (fun _ h9 => h9) rfl rfl rfl (Nat.le_of_ble_eq_true rfl) rfl dX1_weigh_29 (fun F23_ h24_ k25_ => ?_)
      have kc26_ : ∀ b, b ≠ h0 → F23_ b = F b := fun b q0 => (k25_ b q0).trans (kc22_ b q0)
      refine z_vret0 C rfl (by decide) (by decide) dX1_weigh_32 ?_
      have e9 : (wgV nl (xs, xt, xh) (bs, bt, bh)) = (xs, xt, xh) := by rw [wgV, if_pos (by dsimp only; omega)]
      exact ⟨rfl, rfl, by rw [e9]; exact h24_, kc26_⟩

set_option maxRecDepth 100000 in
theorem hin_X1_walk_X1 : ∀ w ∈ u_ws RX1 TX1 10, w ∈ wsX1_walk := by decide +kernel
set_option maxHeartbeats 4000000 in
set_option maxRecDepth 100000 in
theorem c_X1_walk (l : Launch) (hlst : l.stackTraces = false) (G : zGt) (L : List Nat) (h0 b4 b5 b6 b7 : Nat) (cnt sf nl : Nat) (f4 f5 f6 f7 : Nat → Int32) (nu tk hr : Nat → Nat) (hL0 : h0 ∈ L) (hL4 : b4 ∈ L) (hL5 : b5 ∈ L) (hL6 : b6 ∈ L) (hL7 : b7 ∈ L) (hk : wkOk nu tk hr cnt) (g4 : ∀ i, i < cnt → f4 i = nI (2 ^ nu i) ∧ f5 i = nI (tk i) ∧ f6 i = nI (hr i)) (g7 : ∀ i, i ≤ cnt → f7 i = nI (smV tk i)) (hsf : 1 ≤ sf ∧ sf ≤ 100000) (hnl : nl < 1048576) : ∀ (N : Nat) (F : Nat → va_E) (op xs xt xh bs bt bh : Nat), F h0 = .inr (2, [.ref b4, .ref b5, .ref b6, .ref b7, .int (nI cnt), .int (nI sf), .int (nI nl), .int (nI bs), .int (nI bt), .int (nI bh)]) → F b4 = .inl (G.2.1, 12, .inl f4) → F b5 = .inl (G.2.1, 12, .inl f5) → F b6 = .inl (G.2.1, 12, .inl f6) → F b7 = .inl (G.2.1, 13, .inl f7) → op ≤ cnt → xOk nu op (xs, xt, xh) → bdV (bs, bt, bh) → op < N → zM l yX1_walk wsX1_walk (op + 4) (30 * op + 200) 0 0 G L F [.ref h0, .int (nI op), .int (nI xs), .int (nI xt), .int (nI xh)] (fun rv L1 F1 => rv = none ∧ L1 = L ∧ F1 h0 = .inr (2, [.ref b4, .ref b5, .ref b6, .ref b7, .int (nI (cnt)), .int (nI (sf)), .int (nI (nl)), .int (nI ((wkV nl sf nu tk hr op (xs, xt, xh) (bs, bt, bh)).1)), .int (nI ((wkV nl sf nu tk hr op (xs, xt, xh) (bs, bt, bh)).2.1)), .int (nI ((wkV nl sf nu tk hr op (xs, xt, xh) (bs, bt, bh)).2.2))]) ∧ ∀ b, b ≠ h0 → F1 b = F b) := by
  intro N
  induction N with
  | zero => intro F op xs xt xh bs bt bh _ _ _ _ _ _ _ _ h9; exact absurd h9 (Nat.not_lt_zero _)
  | succ N ih =>
    intro F op xs xt xh bs bt bh hF0 hF4 hF5 hF6 hF7 hop hxo hbd hN
    obtain ⟨hx1, hx2, hx3, hx4⟩ := id hxo
    obtain ⟨hb1, hb2, hb3⟩ := id hbd
    dsimp only at hx2 hx3 hx4 hb1 hb2 hb3
    have hcn := hk.1
    have hsm : smV tk op ≤ op * 1998 := smV_le (fun i hi => (hk.2.1 i (by omega)).2.1)
    refine z_of (cc := cX1_walk) (nL := 6) (ret := none) (own := RX1) hlst (by decide +kernel) rfl rfl (Nat.le_of_ble_eq_true rfl) ?_
    intro p e s m below meth c A hnm C
    refine z_lvs (lv' := [(0, .ref h0), (1, .int (nI op)), (2, .int (nI xs)), (3, .int (nI xt)), (4, .int (nI xh))]) rfl ?_
    refine z_iload_n C dX1_walk_0 rfl 3 rfl ?_
    refine z_aload_n C dX1_walk_1 rfl 0 rfl ?_
    refine z_get (ref := "Shedwheel$Search") (v := .int (nI sf)) C hin_X1_walk_X1 hL0 hF0 rfl 5 (by decide) (by decide +kernel) (fun _ h9 => h9) rfl dX1_walk_2 ?_
    refine z_icmp_lt C 17 (((xt : Nat) : Int) < ((sf : Nat) : Int)) (zi_lt (zi_N (n := xt) (by omega)) (zi_N (n := sf) (by omega))) dX1_walk_5 (by decide) (fun c1_ => ?_) (fun c1_ => ?_)
    · -- 5 taken
      refine z_iload_n C dX1_walk_17 rfl 1 rfl ?_
      refine z_iconst C (nI 1) dX1_walk_18 (by decide) ?_
      refine z_icmp_lt C 43 (((op : Nat) : Int) < ((1 : Nat) : Int)) (zi_lt (zi_N (n := op) (by omega)) (zi_N (n := 1) (by omega))) dX1_walk_19 (by decide) (fun c2_ => ?_) (fun c2_ => ?_)
      · -- 19 taken
        refine z_vret0 C rfl (by decide) (by decide) dX1_walk_43 ?_
        have e9 := wkV_cut (nl := nl) (nu := nu) (tk := tk) (hr := hr) (o := op) (x := (xs, xt, xh)) (b := (bs, bt, bh)) (show ¬ sf ≤ xt by omega) (show op = 0 ∨ xt + smV tk op < sf by omega)
        exact ⟨rfl, rfl, by rw [e9]; exact hF0, fun _ _ => rfl⟩
      · -- 19 not taken
        refine z_iload_n C dX1_walk_22 rfl 1 rfl ?_
        refine z_bipush C (nI 12) dX1_walk_23 (by decide) ?_
        refine z_icmp_gt C 43 (((12 : Nat) : Int) < ((op : Nat) : Int)) (zi_lt (zi_N (n := 12) (by omega)) (zi_N (n := op) (by omega))) dX1_walk_25 (by decide) (fun c3_ => absurd c3_ (by omega)) (fun c3_ => ?_)
        refine z_iload_n C dX1_walk_28 rfl 3 rfl ?_
        refine z_aload_n C dX1_walk_29 rfl 0 rfl ?_
        refine z_get (ref := "Shedwheel$Search") (v := .ref b7) C hin_X1_walk_X1 hL0 hF0 rfl 3 (by decide) (by decide +kernel) (fun _ h9 => h9) rfl dX1_walk_30 ?_
        refine z_iload_n C dX1_walk_33 rfl 1 rfl ?_
        refine z_iald C hL7 hF7 (by omega) (by omega) dX1_walk_34 (nI (smV tk op)) (g7 op (by omega)) ?_
        refine z_iadd C (nI (xt + smV tk op)) dX1_walk_35 (nI_add xt (smV tk op)) ?_
        refine z_aload_n C dX1_walk_36 rfl 0 rfl ?_
        refine z_get (ref := "Shedwheel$Search") (v := .int (nI sf)) C hin_X1_walk_X1 hL0 hF0 rfl 5 (by decide) (by decide +kernel) (fun _ h9 => h9) rfl dX1_walk_37 ?_
        refine z_icmp_ge C 44 (((sf : Nat) : Int) ≤ ((xt + smV tk op : Nat) : Int)) (zi_le (zi_N (n := sf) (by omega)) (zi_N (n := xt + smV tk op) (by omega))) dX1_walk_40 (by decide) (fun c4_ => ?_) (fun c4_ => ?_)
        · -- 40 taken
          refine z_iload_n C dX1_walk_44 rfl 1 rfl ?_
          refine z_iconst C (nI 1) dX1_walk_45 (by decide) ?_
          refine z_isub C (nI (op - 1)) dX1_walk_46 (pk_sub (a := op) (b := 1) (by omega)) ?_
          refine z_istore (lv' := [(5, .int (nI (op - 1))), (0, .ref h0), (1, .int (nI op)), (2, .int (nI xs)), (3, .int (nI xt)), (4, .int (nI xh))]) C dX1_walk_47 (by decide) rfl ?_
          refine z_aload_n C dX1_walk_49 rfl 1 rfl ?_
          refine z_iload C dX1_walk_50 0 rfl ?_
          refine z_iload_n C dX1_walk_52 rfl 3 rfl ?_
          refine z_iload_n C dX1_walk_53 rfl 4 rfl ?_
          refine z_iload C dX1_walk_54 5 rfl ?_
          refine z_callS (As := [.ref h0, .int (nI (op - 1)), .int (nI xs), .int (nI xt), .int (nI xh)]) (st := []) (mc := 0) (ms := 0) C (ih F (op - 1) xs xt xh bs bt bh hF0 hF4 hF5 hF6 hF7 (by omega) hxo.stay hbd (by omega)) (va_cwS 5 C.1.2.2.2.2 gX1_walk_X1_walk rfl rfl rfl (by decide +kernel) ⟨by dsimp only; omega, by dsimp only; omega⟩) rfl (Nat.le_of_ble_eq_true rfl) ⟨Nat.le_of_ble_eq_true rfl, Nat.le_of_ble_eq_true rfl⟩ dX1_walk_56 (fun rv5_ L6_ F7_ hp8_ => ?_)
          obtain ⟨e9_, e10_, h11_, k12_⟩ := hp8_
          rw [e9_, e10_]
          have h13_ : F7_ b4 = .inl (G.2.1, 12, .inl f4) := (k12_ b4 (zne hF4 hF0 rfl)).trans hF4
          have h14_ : F7_ b5 = .inl (G.2.1, 12, .inl f5) := (k12_ b5 (zne hF5 hF0 rfl)).trans hF5
          have h15_ : F7_ b6 = .inl (G.2.1, 12, .inl f6) := (k12_ b6 (zne hF6 hF0 rfl)).trans hF6
          have h16_ : F7_ b7 = .inl (G.2.1, 13, .inl f7) := (k12_ b7 (zne hF7 hF0 rfl)).trans hF7
          have kc17_ : ∀ b, b ≠ h0 → F7_ b = F b := fun b q0 => k12_ b q0
          refine z_stk (st' := []) rfl ?_
          refine z_aload_n C dX1_walk_59 rfl 1 rfl ?_
          refine z_iload C dX1_walk_60 0 rfl ?_
          refine z_iload_n C dX1_walk_62 rfl 3 rfl ?_
          refine z_aload_n C dX1_walk_63 rfl 1 rfl ?_
          refine z_get (ref := "Shedwheel$Search") (v := .ref b4) C hin_X1_walk_X1 hL0 h11_ rfl 0 (by decide) (by decide +kernel) (fun _ h9 => h9) rfl dX1_walk_64 ?_
          refine z_iload C dX1_walk_67 0 rfl ?_
          refine z_iald C hL4 h13_ (by omega) (by omega) dX1_walk_69 (nI (2 ^ nu (op - 1))) ((g4 (op - 1) (by omega)).1) ?_
          refine z_ior C (nI (xs + 2 ^ nu (op - 1))) dX1_walk_70 ((nI_or _ _).trans (congrArg nI (or_pow (hx1 (op - 1) (by omega))))) ?_
          refine z_iload_n C dX1_walk_71 rfl 4 rfl ?_
          refine z_aload_n C dX1_walk_72 rfl 1 rfl ?_
          refine z_get (ref := "Shedwheel$Search") (v := .ref b5) C hin_X1_walk_X1 hL0 h11_ rfl 1 (by decide) (by decide +kernel) (fun _ h9 => h9) rfl dX1_walk_73 ?_
          refine z_iload C dX1_walk_76 0 rfl ?_
          refine z_iald C hL5 h14_ (by omega) (by omega) dX1_walk_78 (nI (tk (op - 1))) ((g4 (op - 1) (by omega)).2.1) ?_
          refine z_iadd C (nI (xt + tk (op - 1))) dX1_walk_79 (nI_add xt (tk (op - 1))) ?_
          refine z_iload C dX1_walk_80 5 rfl ?_
          refine z_aload_n C dX1_walk_82 rfl 1 rfl ?_
          refine z_get (ref := "Shedwheel$Search") (v := .ref b6) C hin_X1_walk_X1 hL0 h11_ rfl 2 (by decide) (by decide +kernel) (fun _ h9 => h9) rfl dX1_walk_83 ?_
          refine z_iload C dX1_walk_86 0 rfl ?_
          refine z_iald C hL6 h15_ (by omega) (by omega) dX1_walk_88 (nI (hr (op - 1))) ((g4 (op - 1) (by omega)).2.2) ?_
          refine z_iadd C (nI (xh + hr (op - 1))) dX1_walk_89 (nI_add xh (hr (op - 1))) ?_
          refine z_callS (As := [.ref h0, .int (nI (op - 1)), .int (nI (xs + 2 ^ nu (op - 1))), .int (nI (xt + tk (op - 1))), .int (nI (xh + hr (op - 1)))]) (st := []) (mc := 0) (ms := 0) C (ih F7_ (op - 1) (xs + 2 ^ nu (op - 1)) (xt + tk (op - 1)) (xh + hr (op - 1)) ((wkV nl sf nu tk hr (op - 1) (xs, xt, xh) (bs, bt, bh)).1) ((wkV nl sf nu tk hr (op - 1) (xs, xt, xh) (bs, bt, bh)).2.1) ((wkV nl sf nu tk hr (op - 1) (xs, xt, xh) (bs, bt, bh)).2.2) h11_ h13_ h14_ h15_ h16_ (by omega) (hxo.go hk (by omega) hop) (bdV_wk hk _ _ _ (by omega) hxo.stay hbd) (by omega)) (va_cwS 5 C.1.2.2.2.2 gX1_walk_X1_walk rfl rfl rfl (by decide +kernel) ⟨by dsimp only; omega, by dsimp only; omega⟩) rfl (Nat.le_of_ble_eq_true rfl) ⟨Nat.le_of_ble_eq_true rfl, Nat.le_of_ble_eq_true rfl⟩ dX1_walk_90 (fun rv18_ L19_ F20_ hp21_ => ?_)
          obtain ⟨e22_, e23_, h24_, k25_⟩ := hp21_
          rw [e22_, e23_]
          have h26_ : F20_ b4 = .inl (G.2.1, 12, .inl f4) := (k25_ b4 (zne h13_ h11_ rfl)).trans h13_
          have h27_ : F20_ b5 = .inl (G.2.1, 12, .inl f5) := (k25_ b5 (zne h14_ h11_ rfl)).trans h14_
          have h28_ : F20_ b6 = .inl (G.2.1, 12, .inl f6) := (k25_ b6 (zne h15_ h11_ rfl)).trans h15_
          have h29_ : F20_ b7 = .inl (G.2.1, 13, .inl f7) := (k25_ b7 (zne h16_ h11_ rfl)).trans h16_
          have kc30_ : ∀ b, b ≠ h0 → F20_ b = F b := fun b q0 => (k25_ b q0).trans (kc17_ b q0)
          refine z_stk (st' := []) rfl ?_
          refine z_vret0 C rfl (by decide) (by decide) dX1_walk_93 ?_
          have e9 := wkV_go (nl := nl) (nu := nu) (tk := tk) (hr := hr) (o := op) (x := (xs, xt, xh)) (b := (bs, bt, bh)) (show ¬ sf ≤ xt by omega) (by omega) (show ¬ xt + smV tk op < sf by omega)
          exact ⟨rfl, rfl, by rw [e9]; exact h24_, kc30_⟩
        · -- 40 not taken
          refine z_vret0 C rfl (by decide) (by decide) dX1_walk_43 ?_
          have e9 := wkV_cut (nl := nl) (nu := nu) (tk := tk) (hr := hr) (o := op) (x := (xs, xt, xh)) (b := (bs, bt, bh)) (show ¬ sf ≤ xt by omega) (show op = 0 ∨ xt + smV tk op < sf by omega)
          exact ⟨rfl, rfl, by rw [e9]; exact hF0, fun _ _ => rfl⟩
    · -- 5 not taken
      refine z_aload_n C dX1_walk_8 rfl 0 rfl ?_
      refine z_iload_n C dX1_walk_9 rfl 2 rfl ?_
      refine z_iload_n C dX1_walk_10 rfl 3 rfl ?_
      refine z_iload C dX1_walk_11 4 rfl ?_
      refine z_callV (As := [.int (nI xs), .int (nI xt), .int (nI xh)]) (st := []) (mc := 0) (ms := 0) C hL0 hF0 rfl (c_X1_weigh l hlst G L F h0 b4 b5 b6 b7 cnt sf nl bs bt bh hL0 hF0 xs xt xh (by omega) (by omega) (by omega) (by omega) (by omega) (by omega) (by omega) ) (cwV 3 C.1.2.2.2.2 gX1_walk_X1_weigh rfl rfl rfl (by decide +kernel) ⟨by dsimp only; omega, by dsimp only; omega⟩) rfl (Nat.le_of_ble_eq_true rfl) ⟨Nat.le_of_ble_eq_true rfl, Nat.le_of_ble_eq_true rfl⟩ dX1_walk_13 (fun rv31_ L32_ F33_ hp34_ => ?_)
      obtain ⟨e35_, e36_, h37_, k38_⟩ := hp34_
      rw [e35_, e36_]
      have h39_ : F33_ b4 = .inl (G.2.1, 12, .inl f4) := (k38_ b4 (zne hF4 hF0 rfl)).trans hF4
      have h40_ : F33_ b5 = .inl (G.2.1, 12, .inl f5) := (k38_ b5 (zne hF5 hF0 rfl)).trans hF5
      have h41_ : F33_ b6 = .inl (G.2.1, 12, .inl f6) := (k38_ b6 (zne hF6 hF0 rfl)).trans hF6
      have h42_ : F33_ b7 = .inl (G.2.1, 13, .inl f7) := (k38_ b7 (zne hF7 hF0 rfl)).trans hF7
      have kc43_ : ∀ b, b ≠ h0 → F33_ b = F b := fun b q0 => k38_ b q0
      refine z_stk (st' := []) rfl ?_
      refine z_vret0 C rfl (by decide) (by decide) dX1_walk_16 ?_
      have e9 := wkV_meet (nl := nl) (nu := nu) (tk := tk) (hr := hr) (o := op) (x := (xs, xt, xh)) (b := (bs, bt, bh)) (show sf ≤ xt by omega)
      exact ⟨rfl, rfl, by rw [e9]; exact h37_, kc43_⟩

set_option maxRecDepth 100000 in
theorem hin_X1_bestByWalking_X1 : ∀ w ∈ u_ws RX1 TX1 10, w ∈ wsX1_bestByWalking := by decide +kernel
set_option maxHeartbeats 4000000 in
set_option maxRecDepth 100000 in
theorem c_X1_bestByWalking (l : Launch) (hlst : l.stackTraces = false) (G : zGt) (L : List Nat) (F : Nat → va_E) (h0 b4 b5 b6 b7 : Nat) (cnt sf nl : Nat) (f4 f5 f6 f7 : Nat → Int32) (nu tk hr : Nat → Nat) (hL0 : h0 ∈ L) (hL4 : b4 ∈ L) (hL5 : b5 ∈ L) (hL6 : b6 ∈ L) (hL7 : b7 ∈ L) (hk : wkOk nu tk hr cnt) (g4 : ∀ i, i < cnt → f4 i = nI (2 ^ nu i) ∧ f5 i = nI (tk i) ∧ f6 i = nI (hr i)) (g7 : ∀ i, i ≤ cnt → f7 i = nI (smV tk i)) (hsf : 1 ≤ sf ∧ sf ≤ 100000) (hnl : nl < 1048576) (bs bt bh : Nat) (hF0 : F h0 = .inr (2, [.ref b4, .ref b5, .ref b6, .ref b7, .int (nI cnt), .int (nI sf), .int (nI nl), .int (nI bs), .int (nI bt), .int (nI bh)])) (hF4 : F b4 = .inl (G.2.1, 12, .inl f4)) (hF5 : F b5 = .inl (G.2.1, 12, .inl f5)) (hF6 : F b6 = .inl (G.2.1, 12, .inl f6)) (hF7 : F b7 = .inl (G.2.1, 13, .inl f7)) (hbd : bdV (bs, bt, bh))  : zM l yX1_bestByWalking wsX1_bestByWalking 20 620 0 0 G L F [.ref h0] (fun rv L1 F1 => rv = some (.int (nI (wkV nl sf nu tk hr cnt (0, 0, 0) (bs, bt, bh)).1)) ∧ L1 = L ∧ F1 h0 = .inr (2, [.ref b4, .ref b5, .ref b6, .ref b7, .int (nI (cnt)), .int (nI (sf)), .int (nI (nl)), .int (nI ((wkV nl sf nu tk hr cnt (0, 0, 0) (bs, bt, bh)).1)), .int (nI ((wkV nl sf nu tk hr cnt (0, 0, 0) (bs, bt, bh)).2.1)), .int (nI ((wkV nl sf nu tk hr cnt (0, 0, 0) (bs, bt, bh)).2.2))]) ∧ ∀ b, b ≠ h0 → F1 b = F b) := by
  have hcn := hk.1
  refine z_of (cc := cX1_bestByWalking) (nL := 1) (ret := (some .int)) (own := RX1) hlst (by decide +kernel) rfl rfl (Nat.le_of_ble_eq_true rfl) ?_
  intro p e s m below meth c A hnm C
  refine z_lvs (lv' := [(0, .ref h0)]) rfl ?_
  refine z_aload_n C dX1_bestByWalking_0 rfl 0 rfl ?_
  refine z_aload_n C dX1_bestByWalking_1 rfl 0 rfl ?_
  refine z_get (ref := "Shedwheel$Search") (v := .int (nI cnt)) C hin_X1_bestByWalking_X1 hL0 hF0 rfl 4 (by decide) (by decide +kernel) (fun _ h9 => h9) rfl dX1_bestByWalking_2 ?_
  refine z_iconst C (nI 0) dX1_bestByWalking_5 (by decide) ?_
  refine z_iconst C (nI 0) dX1_bestByWalking_6 (by decide) ?_
  refine z_iconst C (nI 0) dX1_bestByWalking_7 (by decide) ?_
  refine z_callS (As := [.ref h0, .int (nI cnt), .int (nI 0), .int (nI 0), .int (nI 0)]) (st := []) (mc := 0) (ms := 0) C (c_X1_walk l hlst G L h0 b4 b5 b6 b7 cnt sf nl f4 f5 f6 f7 nu tk hr hL0 hL4 hL5 hL6 hL7 hk g4 g7 hsf hnl (cnt + 1) F cnt 0 0 0 bs bt bh hF0 hF4 hF5 hF6 hF7 (by omega) (xOk0 _ _ (by omega)) hbd (by omega)) (va_cwS 5 C.1.2.2.2.2 gX1_bestByWalking_X1_walk rfl rfl rfl (by decide +kernel) ⟨by dsimp only; omega, by dsimp only; omega⟩) rfl (Nat.le_of_ble_eq_true rfl) ⟨Nat.le_of_ble_eq_true rfl, Nat.le_of_ble_eq_true rfl⟩ dX1_bestByWalking_8 (fun rv1_ L2_ F3_ hp4_ => ?_)
  obtain ⟨e5_, e6_, h7_, k8_⟩ := hp4_
  rw [e5_, e6_]
  have h9_ : F3_ b4 = .inl (G.2.1, 12, .inl f4) := (k8_ b4 (zne hF4 hF0 rfl)).trans hF4
  have h10_ : F3_ b5 = .inl (G.2.1, 12, .inl f5) := (k8_ b5 (zne hF5 hF0 rfl)).trans hF5
  have h11_ : F3_ b6 = .inl (G.2.1, 12, .inl f6) := (k8_ b6 (zne hF6 hF0 rfl)).trans hF6
  have h12_ : F3_ b7 = .inl (G.2.1, 13, .inl f7) := (k8_ b7 (zne hF7 hF0 rfl)).trans hF7
  have kc13_ : ∀ b, b ≠ h0 → F3_ b = F b := fun b q0 => k8_ b q0
  refine z_stk (st' := []) rfl ?_
  refine z_aload_n C dX1_bestByWalking_11 rfl 0 rfl ?_
  refine z_get (ref := "Shedwheel$Search") (v := .int (nI ((wkV nl sf nu tk hr cnt (0, 0, 0) (bs, bt, bh)).1))) C hin_X1_bestByWalking_X1 hL0 h7_ rfl 7 (by decide) (by decide +kernel) (fun _ h9 => h9) rfl dX1_bestByWalking_12 ?_
  refine z_iret0 C rfl rfl (by decide) (by decide) dX1_bestByWalking_15 ?_
  exact ⟨rfl, rfl, h7_, kc13_⟩

set_option maxHeartbeats 4000000 in
set_option maxRecDepth 100000 in
theorem c_X2_holds (l : Launch) (hlst : l.stackTraces = false) (G : zGt) (L : List Nat) (F : Nat → va_E) (vs vk : Nat) (hvs : vs < 2147483648) (hvk : vk < 31) : zM l yX2_holds wsX2_holds 1 24 0 0 G L F [.int (nI vs), .int (nI vk)] (fun rv L1 F1 => rv = some (.int (nI (bitV vs vk))) ∧ L1 = L ∧ F1 = F) := by
  have hb9 := bitV_le vs vk
  refine z_of (cc := cX2_holds) (nL := 2) (ret := (some .boolean)) (own := RX2) hlst (by decide +kernel) rfl rfl (Nat.le_of_ble_eq_true rfl) ?_
  intro p e s m below meth c A hnm C
  refine z_lvs (lv' := [(0, .int (nI vs)), (1, .int (nI vk))]) rfl ?_
  refine z_iload_n C dX2_holds_0 rfl 0 rfl ?_
  refine z_iload_n C dX2_holds_1 rfl 1 rfl ?_
  refine z_ishr C (nI (vs / 2 ^ vk)) dX2_holds_2 (bit_of (by omega) (by omega)) ?_
  refine z_iconst C (nI 1) dX2_holds_3 (by decide) ?_
  refine z_iand C (nI (bitV vs vk)) dX2_holds_4 (bit_and vk (by omega)) ?_
  refine z_if_eq C 12 (((bitV vs vk : Nat) : Int) = (0 : Int)) (zi_eq (zi_N (n := bitV vs vk) (by omega)) zi_0) dX2_holds_5 (by decide) (fun c1_ => ?_) (fun c1_ => ?_)
  · -- 5 taken
    refine z_iconst C (nI 0) dX2_holds_12 (by decide) ?_
    refine z_iret0 C rfl rfl (by decide) (by decide) dX2_holds_13 ?_
    exact ⟨by rw [show bitV vs vk = 0 by have := bitV_le vs vk; omega], rfl, rfl⟩
  · -- 5 not taken
    refine z_iconst C (nI 1) dX2_holds_8 (by decide) ?_
    refine z_goto C 13 dX2_holds_9 (by decide) ?_
    refine z_iret0 C rfl rfl (by decide) (by decide) dX2_holds_13 ?_
    exact ⟨by rw [show bitV vs vk = 1 by have := bitV_le vs vk; omega], rfl, rfl⟩
end
section
set_option maxRecDepth 100000 in
theorem hin_X1_init_X1 : ∀ w ∈ u_ws RX1 TX1 10, w ∈ wsX1_init := by decide +kernel
set_option maxHeartbeats 4000000 in
set_option maxRecDepth 100000 in
theorem c_X1_init (l : Launch) (hlst : l.stackTraces = false) (G : zGt) (L : List Nat) (F : Nat → va_E) (h0 : Nat) (hL0 : h0 ∈ L) (hF0 : F h0 = .inr (2, [.null, .null, .null, .null, .int (nI 0), .int (nI 0), .int (nI 0), .int (nI 0), .int (nI 0), .int (nI 0)])) : zM l yX1_init wsX1_init 1 24 4 49 G L F [.ref h0] (fun rv L1 F1 => ∃ b4 b5 b6 b7 : Nat, rv = none ∧ L1 = (((L ++ [b4]) ++ [b5]) ++ [b6]) ++ [b7] ∧ (b4 ∉ L ∧ b5 ∉ L ∧ b6 ∉ L ∧ b7 ∉ L) ∧ (b4 ≠ b5 ∧ b4 ≠ b6 ∧ b4 ≠ b7 ∧ b5 ≠ b6 ∧ b5 ≠ b7 ∧ b6 ≠ b7) ∧ F1 h0 = .inr (2, [.ref b4, .ref b5, .ref b6, .ref b7, .int (nI 0), .int (nI 0), .int (nI 0), .int (nI 0), .int (nI 0), .int (nI 0)]) ∧ (F1 b4 = .inl (G.2.1, 12, .inl (fun _ => 0)) ∧ F1 b5 = .inl (G.2.1, 12, .inl (fun _ => 0)) ∧ F1 b6 = .inl (G.2.1, 12, .inl (fun _ => 0)) ∧ F1 b7 = .inl (G.2.1, 13, .inl (fun _ => 0))) ∧ ∀ b, b ∈ L → b ≠ h0 → F1 b = F b) := by
  refine z_of (cc := cX1_init) (nL := 1) (ret := none) (own := RX1) hlst (by decide +kernel) rfl rfl (Nat.le_of_ble_eq_true rfl) ?_
  intro p e s m below meth c A hnm C
  refine z_lvs (lv' := [(0, .ref h0)]) rfl ?_
  refine z_aload_n C dX1_init_0 rfl 0 rfl ?_
  refine z_obj (T9 := []) C (by decide +kernel) (by decide +kernel) (by decide +kernel) (Nat.le_of_ble_eq_true rfl) (Nat.le_of_ble_eq_true rfl) dX1_init_1 ?_
  refine z_aload_n C dX1_init_4 rfl 0 rfl ?_
  refine z_bipush C (nI 12) dX1_init_5 (by decide) ?_
  refine z_newI C (by decide) (by decide +kernel) (Nat.le_of_ble_eq_true rfl) (Nat.le_of_ble_eq_true rfl) dX1_init_7 (fun q1_ F2_ hq3_ h4_ k5_ => ?_)
  have hL6_ : h0 ∈ (L ++ [q1_]) := List.mem_append_left _ hL0
  have nq7_ : h0 ≠ q1_ := fun h9 => hq3_ (h9 ▸ hL0)
  have hL8_ : q1_ ∈ (L ++ [q1_]) := List.mem_append_right _ (List.mem_singleton.mpr rfl)
  have h9_ : F2_ h0 = .inr (2, [.null, .null, .null, .null, .int (nI 0), .int (nI 0), .int (nI 0), .int (nI 0), .int (nI 0), .int (nI 0)]) := (k5_ h0 nq7_).trans hF0
  have kc10_ : ∀ b, b ≠ q1_ → F2_ b = F b := fun b q0 => k5_ b q0
  refine z_putF (ref := "Shedwheel$Search") (v := .ref q1_) (fs' := [.ref q1_, .null, .null, .null, .int (nI 0), .int (nI 0), .int (nI 0), .int (nI 0), .int (nI 0), .int (nI 0)]) C hin_X1_init_X1 tyX1 tyX1_ok nmX1 hL6_ h9_ rfl 0 (by decide) (by decide +kernel) (fun _ h9 => h9) rfl hnm rfl rfl rfl (Nat.le_of_ble_eq_true rfl) rfl dX1_init_9 (fun F11_ h12_ k13_ => ?_)
  have h14_ : F11_ q1_ = .inl (G.2.1, 12, .inl (fun _ => 0)) := (k13_ q1_ (Ne.symm nq7_)).trans h4_
  have kc15_ : ∀ b, b ≠ h0 → b ≠ q1_ → F11_ b = F b := fun b q0 q1 => (k13_ b q0).trans (kc10_ b q1)
  refine z_aload_n C dX1_init_12 rfl 0 rfl ?_
  refine z_bipush C (nI 12) dX1_init_13 (by decide) ?_
  refine z_newI C (by decide) (by decide +kernel) (Nat.le_of_ble_eq_true rfl) (Nat.le_of_ble_eq_true rfl) dX1_init_15 (fun q16_ F17_ hq18_ h19_ k20_ => ?_)
  have hL21_ : h0 ∈ ((L ++ [q1_]) ++ [q16_]) := List.mem_append_left _ hL6_
  have nq22_ : h0 ≠ q16_ := fun h9 => hq18_ (h9 ▸ hL6_)
  have hL23_ : q1_ ∈ ((L ++ [q1_]) ++ [q16_]) := List.mem_append_left _ hL8_
  have nq24_ : q1_ ≠ q16_ := fun h9 => hq18_ (h9 ▸ hL8_)
  have hL25_ : q16_ ∈ ((L ++ [q1_]) ++ [q16_]) := List.mem_append_right _ (List.mem_singleton.mpr rfl)
  have h26_ : F17_ h0 = .inr (2, [.ref q1_, .null, .null, .null, .int (nI 0), .int (nI 0), .int (nI 0), .int (nI 0), .int (nI 0), .int (nI 0)]) := (k20_ h0 nq22_).trans h12_
  have h27_ : F17_ q1_ = .inl (G.2.1, 12, .inl (fun _ => 0)) := (k20_ q1_ nq24_).trans h14_
  have kc28_ : ∀ b, b ≠ h0 → b ≠ q1_ → b ≠ q16_ → F17_ b = F b := fun b q0 q1 q2 => (k20_ b q2).trans (kc15_ b q0 q1)
  refine z_putF (ref := "Shedwheel$Search") (v := .ref q16_) (fs' := [.ref q1_, .ref q16_, .null, .null, .int (nI 0), .int (nI 0), .int (nI 0), .int (nI 0), .int (nI 0), .int (nI 0)]) C hin_X1_init_X1 tyX1 tyX1_ok nmX1 hL21_ h26_ rfl 1 (by decide) (by decide +kernel) (fun _ h9 => h9) rfl hnm rfl rfl rfl (Nat.le_of_ble_eq_true rfl) rfl dX1_init_17 (fun F29_ h30_ k31_ => ?_)
  have h32_ : F29_ q1_ = .inl (G.2.1, 12, .inl (fun _ => 0)) := (k31_ q1_ (Ne.symm nq7_)).trans h27_
  have h33_ : F29_ q16_ = .inl (G.2.1, 12, .inl (fun _ => 0)) := (k31_ q16_ (Ne.symm nq22_)).trans h19_
  have kc34_ : ∀ b, b ≠ h0 → b ≠ q1_ → b ≠ q16_ → F29_ b = F b := fun b q0 q1 q2 => (k31_ b q0).trans (kc28_ b q0 q1 q2)
  refine z_aload_n C dX1_init_20 rfl 0 rfl ?_
  refine z_bipush C (nI 12) dX1_init_21 (by decide) ?_
  refine z_newI C (by decide) (by decide +kernel) (Nat.le_of_ble_eq_true rfl) (Nat.le_of_ble_eq_true rfl) dX1_init_23 (fun q35_ F36_ hq37_ h38_ k39_ => ?_)
  have hL40_ : h0 ∈ (((L ++ [q1_]) ++ [q16_]) ++ [q35_]) := List.mem_append_left _ hL21_
  have nq41_ : h0 ≠ q35_ := fun h9 => hq37_ (h9 ▸ hL21_)
  have hL42_ : q1_ ∈ (((L ++ [q1_]) ++ [q16_]) ++ [q35_]) := List.mem_append_left _ hL23_
  have nq43_ : q1_ ≠ q35_ := fun h9 => hq37_ (h9 ▸ hL23_)
  have hL44_ : q16_ ∈ (((L ++ [q1_]) ++ [q16_]) ++ [q35_]) := List.mem_append_left _ hL25_
  have nq45_ : q16_ ≠ q35_ := fun h9 => hq37_ (h9 ▸ hL25_)
  have hL46_ : q35_ ∈ (((L ++ [q1_]) ++ [q16_]) ++ [q35_]) := List.mem_append_right _ (List.mem_singleton.mpr rfl)
  have h47_ : F36_ h0 = .inr (2, [.ref q1_, .ref q16_, .null, .null, .int (nI 0), .int (nI 0), .int (nI 0), .int (nI 0), .int (nI 0), .int (nI 0)]) := (k39_ h0 nq41_).trans h30_
  have h48_ : F36_ q1_ = .inl (G.2.1, 12, .inl (fun _ => 0)) := (k39_ q1_ nq43_).trans h32_
  have h49_ : F36_ q16_ = .inl (G.2.1, 12, .inl (fun _ => 0)) := (k39_ q16_ nq45_).trans h33_
  have kc50_ : ∀ b, b ≠ h0 → b ≠ q1_ → b ≠ q16_ → b ≠ q35_ → F36_ b = F b := fun b q0 q1 q2 q3 => (k39_ b q3).trans (kc34_ b q0 q1 q2)
  refine z_putF (ref := "Shedwheel$Search") (v := .ref q35_) (fs' := [.ref q1_, .ref q16_, .ref q35_, .null, .int (nI 0), .int (nI 0), .int (nI 0), .int (nI 0), .int (nI 0), .int (nI 0)]) C hin_X1_init_X1 tyX1 tyX1_ok nmX1 hL40_ h47_ rfl 2 (by decide) (by decide +kernel) (fun _ h9 => h9) rfl hnm rfl rfl rfl (Nat.le_of_ble_eq_true rfl) rfl dX1_init_25 (fun F51_ h52_ k53_ => ?_)
  have h54_ : F51_ q1_ = .inl (G.2.1, 12, .inl (fun _ => 0)) := (k53_ q1_ (Ne.symm nq7_)).trans h48_
  have h55_ : F51_ q16_ = .inl (G.2.1, 12, .inl (fun _ => 0)) := (k53_ q16_ (Ne.symm nq22_)).trans h49_
  have h56_ : F51_ q35_ = .inl (G.2.1, 12, .inl (fun _ => 0)) := (k53_ q35_ (Ne.symm nq41_)).trans h38_
  have kc57_ : ∀ b, b ≠ h0 → b ≠ q1_ → b ≠ q16_ → b ≠ q35_ → F51_ b = F b := fun b q0 q1 q2 q3 => (k53_ b q0).trans (kc50_ b q0 q1 q2 q3)
  refine z_aload_n C dX1_init_28 rfl 0 rfl ?_
  refine z_bipush C (nI 13) dX1_init_29 (by decide) ?_
  refine z_newI C (by decide) (by decide +kernel) (Nat.le_of_ble_eq_true rfl) (Nat.le_of_ble_eq_true rfl) dX1_init_31 (fun q58_ F59_ hq60_ h61_ k62_ => ?_)
  have hL63_ : h0 ∈ ((((L ++ [q1_]) ++ [q16_]) ++ [q35_]) ++ [q58_]) := List.mem_append_left _ hL40_
  have nq64_ : h0 ≠ q58_ := fun h9 => hq60_ (h9 ▸ hL40_)
  have hL65_ : q1_ ∈ ((((L ++ [q1_]) ++ [q16_]) ++ [q35_]) ++ [q58_]) := List.mem_append_left _ hL42_
  have nq66_ : q1_ ≠ q58_ := fun h9 => hq60_ (h9 ▸ hL42_)
  have hL67_ : q16_ ∈ ((((L ++ [q1_]) ++ [q16_]) ++ [q35_]) ++ [q58_]) := List.mem_append_left _ hL44_
  have nq68_ : q16_ ≠ q58_ := fun h9 => hq60_ (h9 ▸ hL44_)
  have hL69_ : q35_ ∈ ((((L ++ [q1_]) ++ [q16_]) ++ [q35_]) ++ [q58_]) := List.mem_append_left _ hL46_
  have nq70_ : q35_ ≠ q58_ := fun h9 => hq60_ (h9 ▸ hL46_)
  have hL71_ : q58_ ∈ ((((L ++ [q1_]) ++ [q16_]) ++ [q35_]) ++ [q58_]) := List.mem_append_right _ (List.mem_singleton.mpr rfl)
  have h72_ : F59_ h0 = .inr (2, [.ref q1_, .ref q16_, .ref q35_, .null, .int (nI 0), .int (nI 0), .int (nI 0), .int (nI 0), .int (nI 0), .int (nI 0)]) := (k62_ h0 nq64_).trans h52_
  have h73_ : F59_ q1_ = .inl (G.2.1, 12, .inl (fun _ => 0)) := (k62_ q1_ nq66_).trans h54_
  have h74_ : F59_ q16_ = .inl (G.2.1, 12, .inl (fun _ => 0)) := (k62_ q16_ nq68_).trans h55_
  have h75_ : F59_ q35_ = .inl (G.2.1, 12, .inl (fun _ => 0)) := (k62_ q35_ nq70_).trans h56_
  have kc76_ : ∀ b, b ≠ h0 → b ≠ q1_ → b ≠ q16_ → b ≠ q35_ → b ≠ q58_ → F59_ b = F b := fun b q0 q1 q2 q3 q4 => (k62_ b q4).trans (kc57_ b q0 q1 q2 q3)
  refine z_putF (ref := "Shedwheel$Search") (v := .ref q58_) (fs' := [.ref q1_, .ref q16_, .ref q35_, .ref q58_, .int (nI 0), .int (nI 0), .int (nI 0), .int (nI 0), .int (nI 0), .int (nI 0)]) C hin_X1_init_X1 tyX1 tyX1_ok nmX1 hL63_ h72_ rfl 3 (by decide) (by decide +kernel) (fun _ h9 => h9) rfl hnm rfl rfl rfl (Nat.le_of_ble_eq_true rfl) rfl dX1_init_33 (fun F77_ h78_ k79_ => ?_)
  have h80_ : F77_ q1_ = .inl (G.2.1, 12, .inl (fun _ => 0)) := (k79_ q1_ (Ne.symm nq7_)).trans h73_
  have h81_ : F77_ q16_ = .inl (G.2.1, 12, .inl (fun _ => 0)) := (k79_ q16_ (Ne.symm nq22_)).trans h74_
  have h82_ : F77_ q35_ = .inl (G.2.1, 12, .inl (fun _ => 0)) := (k79_ q35_ (Ne.symm nq41_)).trans h75_
  have h83_ : F77_ q58_ = .inl (G.2.1, 13, .inl (fun _ => 0)) := (k79_ q58_ (Ne.symm nq64_)).trans h61_
  have kc84_ : ∀ b, b ≠ h0 → b ≠ q1_ → b ≠ q16_ → b ≠ q35_ → b ≠ q58_ → F77_ b = F b := fun b q0 q1 q2 q3 q4 => (k79_ b q0).trans (kc76_ b q0 q1 q2 q3 q4)
  refine z_aload_n C dX1_init_36 rfl 0 rfl ?_
  refine z_iconst C (nI 0) dX1_init_37 (by decide) ?_
  refine z_put (ref := "Shedwheel$Search") (v := .int (nI 0)) (fs' := [.ref q1_, .ref q16_, .ref q35_, .ref q58_, .int (nI 0), .int (nI 0), .int (nI 0), .int (nI 0), .int (nI 0), .int (nI 0)]) C hin_X1_init_X1 tyX1 tyX1_ok nmX1 hL63_ h78_ rfl 4 (by decide) (by decide +kernel) (fun _ h9 => h9) rfl rfl rfl (Nat.le_of_ble_eq_true rfl) rfl dX1_init_38 (fun F85_ h86_ k87_ => ?_)
  have h88_ : F85_ q1_ = .inl (G.2.1, 12, .inl (fun _ => 0)) := (k87_ q1_ (Ne.symm nq7_)).trans h80_
  have h89_ : F85_ q16_ = .inl (G.2.1, 12, .inl (fun _ => 0)) := (k87_ q16_ (Ne.symm nq22_)).trans h81_
  have h90_ : F85_ q35_ = .inl (G.2.1, 12, .inl (fun _ => 0)) := (k87_ q35_ (Ne.symm nq41_)).trans h82_
  have h91_ : F85_ q58_ = .inl (G.2.1, 13, .inl (fun _ => 0)) := (k87_ q58_ (Ne.symm nq64_)).trans h83_
  have kc92_ : ∀ b, b ≠ h0 → b ≠ q1_ → b ≠ q16_ → b ≠ q35_ → b ≠ q58_ → F85_ b = F b := fun b q0 q1 q2 q3 q4 => (k87_ b q0).trans (kc84_ b q0 q1 q2 q3 q4)
  refine z_aload_n C dX1_init_41 rfl 0 rfl ?_
  refine z_iconst C (nI 0) dX1_init_42 (by decide) ?_
  refine z_put (ref := "Shedwheel$Search") (v := .int (nI 0)) (fs' := [.ref q1_, .ref q16_, .ref q35_, .ref q58_, .int (nI 0), .int (nI 0), .int (nI 0), .int (nI 0), .int (nI 0), .int (nI 0)]) C hin_X1_init_X1 tyX1 tyX1_ok nmX1 hL63_ h86_ rfl 5 (by decide) (by decide +kernel) (fun _ h9 => h9) rfl rfl rfl (Nat.le_of_ble_eq_true rfl) rfl dX1_init_43 (fun F93_ h94_ k95_ => ?_)
  have h96_ : F93_ q1_ = .inl (G.2.1, 12, .inl (fun _ => 0)) := (k95_ q1_ (Ne.symm nq7_)).trans h88_
  have h97_ : F93_ q16_ = .inl (G.2.1, 12, .inl (fun _ => 0)) := (k95_ q16_ (Ne.symm nq22_)).trans h89_
  have h98_ : F93_ q35_ = .inl (G.2.1, 12, .inl (fun _ => 0)) := (k95_ q35_ (Ne.symm nq41_)).trans h90_
  have h99_ : F93_ q58_ = .inl (G.2.1, 13, .inl (fun _ => 0)) := (k95_ q58_ (Ne.symm nq64_)).trans h91_
  have kc100_ : ∀ b, b ≠ h0 → b ≠ q1_ → b ≠ q16_ → b ≠ q35_ → b ≠ q58_ → F93_ b = F b := fun b q0 q1 q2 q3 q4 => (k95_ b q0).trans (kc92_ b q0 q1 q2 q3 q4)
  refine z_aload_n C dX1_init_46 rfl 0 rfl ?_
  refine z_iconst C (nI 0) dX1_init_47 (by decide) ?_
  refine z_put (ref := "Shedwheel$Search") (v := .int (nI 0)) (fs' := [.ref q1_, .ref q16_, .ref q35_, .ref q58_, .int (nI 0), .int (nI 0), .int (nI 0), .int (nI 0), .int (nI 0), .int (nI 0)]) C hin_X1_init_X1 tyX1 tyX1_ok nmX1 hL63_ h94_ rfl 6 (by decide) (by decide +kernel) (fun _ h9 => h9) rfl rfl rfl (Nat.le_of_ble_eq_true rfl) rfl dX1_init_48 (fun F101_ h102_ k103_ => ?_)
  have h104_ : F101_ q1_ = .inl (G.2.1, 12, .inl (fun _ => 0)) := (k103_ q1_ (Ne.symm nq7_)).trans h96_
  have h105_ : F101_ q16_ = .inl (G.2.1, 12, .inl (fun _ => 0)) := (k103_ q16_ (Ne.symm nq22_)).trans h97_
  have h106_ : F101_ q35_ = .inl (G.2.1, 12, .inl (fun _ => 0)) := (k103_ q35_ (Ne.symm nq41_)).trans h98_
  have h107_ : F101_ q58_ = .inl (G.2.1, 13, .inl (fun _ => 0)) := (k103_ q58_ (Ne.symm nq64_)).trans h99_
  have kc108_ : ∀ b, b ≠ h0 → b ≠ q1_ → b ≠ q16_ → b ≠ q35_ → b ≠ q58_ → F101_ b = F b := fun b q0 q1 q2 q3 q4 => (k103_ b q0).trans (kc100_ b q0 q1 q2 q3 q4)
  refine z_aload_n C dX1_init_51 rfl 0 rfl ?_
  refine z_iconst C (nI 0) dX1_init_52 (by decide) ?_
  refine z_put (ref := "Shedwheel$Search") (v := .int (nI 0)) (fs' := [.ref q1_, .ref q16_, .ref q35_, .ref q58_, .int (nI 0), .int (nI 0), .int (nI 0), .int (nI 0), .int (nI 0), .int (nI 0)]) C hin_X1_init_X1 tyX1 tyX1_ok nmX1 hL63_ h102_ rfl 7 (by decide) (by decide +kernel) (fun _ h9 => h9) rfl rfl rfl (Nat.le_of_ble_eq_true rfl) rfl dX1_init_53 (fun F109_ h110_ k111_ => ?_)
  have h112_ : F109_ q1_ = .inl (G.2.1, 12, .inl (fun _ => 0)) := (k111_ q1_ (Ne.symm nq7_)).trans h104_
  have h113_ : F109_ q16_ = .inl (G.2.1, 12, .inl (fun _ => 0)) := (k111_ q16_ (Ne.symm nq22_)).trans h105_
  have h114_ : F109_ q35_ = .inl (G.2.1, 12, .inl (fun _ => 0)) := (k111_ q35_ (Ne.symm nq41_)).trans h106_
  have h115_ : F109_ q58_ = .inl (G.2.1, 13, .inl (fun _ => 0)) := (k111_ q58_ (Ne.symm nq64_)).trans h107_
  have kc116_ : ∀ b, b ≠ h0 → b ≠ q1_ → b ≠ q16_ → b ≠ q35_ → b ≠ q58_ → F109_ b = F b := fun b q0 q1 q2 q3 q4 => (k111_ b q0).trans (kc108_ b q0 q1 q2 q3 q4)
  refine z_aload_n C dX1_init_56 rfl 0 rfl ?_
  refine z_iconst C (nI 0) dX1_init_57 (by decide) ?_
  refine z_put (ref := "Shedwheel$Search") (v := .int (nI 0)) (fs' := [.ref q1_, .ref q16_, .ref q35_, .ref q58_, .int (nI 0), .int (nI 0), .int (nI 0), .int (nI 0), .int (nI 0), .int (nI 0)]) C hin_X1_init_X1 tyX1 tyX1_ok nmX1 hL63_ h110_ rfl 8 (by decide) (by decide +kernel) (fun _ h9 => h9) rfl rfl rfl (Nat.le_of_ble_eq_true rfl) rfl dX1_init_58 (fun F117_ h118_ k119_ => ?_)
  have h120_ : F117_ q1_ = .inl (G.2.1, 12, .inl (fun _ => 0)) := (k119_ q1_ (Ne.symm nq7_)).trans h112_
  have h121_ : F117_ q16_ = .inl (G.2.1, 12, .inl (fun _ => 0)) := (k119_ q16_ (Ne.symm nq22_)).trans h113_
  have h122_ : F117_ q35_ = .inl (G.2.1, 12, .inl (fun _ => 0)) := (k119_ q35_ (Ne.symm nq41_)).trans h114_
  have h123_ : F117_ q58_ = .inl (G.2.1, 13, .inl (fun _ => 0)) := (k119_ q58_ (Ne.symm nq64_)).trans h115_
  have kc124_ : ∀ b, b ≠ h0 → b ≠ q1_ → b ≠ q16_ → b ≠ q35_ → b ≠ q58_ → F117_ b = F b := fun b q0 q1 q2 q3 q4 => (k119_ b q0).trans (kc116_ b q0 q1 q2 q3 q4)
  refine z_aload_n C dX1_init_61 rfl 0 rfl ?_
  refine z_iconst C (nI 0) dX1_init_62 (by decide) ?_
  refine z_put (ref := "Shedwheel$Search") (v := .int (nI 0)) (fs' := [.ref q1_, .ref q16_, .ref q35_, .ref q58_, .int (nI 0), .int (nI 0), .int (nI 0), .int (nI 0), .int (nI 0), .int (nI 0)]) C hin_X1_init_X1 tyX1 tyX1_ok nmX1 hL63_ h118_ rfl 9 (by decide) (by decide +kernel) (fun _ h9 => h9) rfl rfl rfl (Nat.le_of_ble_eq_true rfl) rfl dX1_init_63 (fun F125_ h126_ k127_ => ?_)
  have h128_ : F125_ q1_ = .inl (G.2.1, 12, .inl (fun _ => 0)) := (k127_ q1_ (Ne.symm nq7_)).trans h120_
  have h129_ : F125_ q16_ = .inl (G.2.1, 12, .inl (fun _ => 0)) := (k127_ q16_ (Ne.symm nq22_)).trans h121_
  have h130_ : F125_ q35_ = .inl (G.2.1, 12, .inl (fun _ => 0)) := (k127_ q35_ (Ne.symm nq41_)).trans h122_
  have h131_ : F125_ q58_ = .inl (G.2.1, 13, .inl (fun _ => 0)) := (k127_ q58_ (Ne.symm nq64_)).trans h123_
  have kc132_ : ∀ b, b ≠ h0 → b ≠ q1_ → b ≠ q16_ → b ≠ q35_ → b ≠ q58_ → F125_ b = F b := fun b q0 q1 q2 q3 q4 => (k127_ b q0).trans (kc124_ b q0 q1 q2 q3 q4)
  refine z_vret0 C rfl (by decide) (by decide) dX1_init_66 ?_
  exact ⟨q1_, q16_, q35_, q58_, rfl, rfl, ⟨hq3_, fun h => hq18_ (List.mem_append_left _ h), fun h => hq37_ (List.mem_append_left _ (List.mem_append_left _ h)), fun h => hq60_ (List.mem_append_left _ (List.mem_append_left _ (List.mem_append_left _ h)))⟩, ⟨nq24_, nq43_, nq66_, nq45_, nq68_, nq70_⟩, h126_, ⟨h128_, h129_, h130_, h131_⟩, fun b hb h0' => kc132_ b h0' (fun e => hq3_ (e ▸ hb)) (fun e => hq18_ (List.mem_append_left _ (e ▸ hb))) (fun e => hq37_ (List.mem_append_left _ (List.mem_append_left _ (e ▸ hb)))) (fun e => hq60_ (List.mem_append_left _ (List.mem_append_left _ (List.mem_append_left _ (e ▸ hb)))))⟩

set_option maxHeartbeats 4000000 in
set_option maxRecDepth 100000 in
theorem c_Jxa1e45_init_da8c8 (l : Launch) (hlst : l.stackTraces = false) (G : zGt) (L : List Nat) (F : Nat → va_E) (h0 : Nat) : zM l yJxa1e45_init_da8c8 wsJxa1e45_init_da8c8 1 24 0 0 G L F [.ref h0] (fun rv L1 F1 => rv = none ∧ L1 = L ∧ F1 = F) := by
  refine z_of (cc := cJxa1e45_init_da8c8) (nL := 1) (ret := none) (own := RJxa1e45) hlst (by decide +kernel) rfl rfl (Nat.le_of_ble_eq_true rfl) ?_
  intro p e s m below meth c A hnm C
  refine z_lvs (lv' := [(0, .ref h0)]) rfl ?_
  refine z_aload_n C dJxa1e45_init_da8c8_0 rfl 0 rfl ?_
  refine z_obj (T9 := []) C (by decide +kernel) (by decide +kernel) (by decide +kernel) (Nat.le_of_ble_eq_true rfl) (Nat.le_of_ble_eq_true rfl) dJxa1e45_init_da8c8_1 ?_
  refine z_vret0 C rfl (by decide) (by decide) dJxa1e45_init_da8c8_4 ?_
  exact ⟨rfl, rfl, rfl⟩

set_option maxRecDepth 100000 in
theorem hin_Jxc12de_init_da8c8_Jx4a65c : ∀ w ∈ u_ws RJx4a65c TJx4a65c 3, w ∈ wsJxc12de_init_da8c8 := by decide +kernel
set_option maxHeartbeats 4000000 in
set_option maxRecDepth 100000 in
theorem c_Jxc12de_init_da8c8 (l : Launch) (hlst : l.stackTraces = false) (G : zGt) (L : List Nat) (F : Nat → va_E) (h0 : Nat) (hL0 : h0 ∈ L) (hF0 : F h0 = .inr (0, [.int (nI 0), .null, .int (nI 0)])) : zM l yJxc12de_init_da8c8 wsJxc12de_init_da8c8 2 44 0 0 G L F [.ref h0] (fun rv L1 F1 => rv = none ∧ L1 = L ∧ F1 h0 = .inr (0, [.int (nI 0), .null, .int (nI 0)]) ∧ ∀ b, b ≠ h0 → F1 b = F b) := by
  refine z_of (cc := cJxc12de_init_da8c8) (nL := 1) (ret := none) (own := RJxc12de) hlst (by decide +kernel) rfl rfl (Nat.le_of_ble_eq_true rfl) ?_
  intro p e s m below meth c A hnm C
  refine z_lvs (lv' := [(0, .ref h0)]) rfl ?_
  refine z_aload_n C dJxc12de_init_da8c8_0 rfl 0 rfl ?_
  refine z_callI (As := []) (st := []) (mc := 0) (ms := 0) C (c_Jxa1e45_init_da8c8 l hlst G L F h0) (cwI 0 C.1.2.2.2.2 gJxc12de_init_da8c8_Jxa1e45_init_da8c8 rfl rfl rfl (C.1.2.2.2.2 _ (show Cond.initialized RJxa1e45 ∈ _ from (by decide +kernel))) (C.1.2.2.2.2 _ (show Cond.methodLink RJxc12de 1 yJxa1e45_init_da8c8 ∈ _ from (by decide +kernel))) (C.1.2.2.2.2 _ (show Cond.instanceMethod yJxa1e45_init_da8c8 ∈ _ from (by decide +kernel))) rfl (by decide +kernel) ⟨Nat.le_of_ble_eq_true rfl, Nat.le_of_ble_eq_true rfl⟩) rfl (Nat.le_of_ble_eq_true rfl) ⟨Nat.le_of_ble_eq_true rfl, Nat.le_of_ble_eq_true rfl⟩ dJxc12de_init_da8c8_1 (z_p ?_)
  refine z_stk (st' := []) rfl ?_
  refine z_aload_n C dJxc12de_init_da8c8_4 rfl 0 rfl ?_
  refine z_iconst C (nI 0) dJxc12de_init_da8c8_5 (by decide) ?_
  refine z_put (ref := "java/util/AbstractList") (v := .int (nI 0)) (fs' := [.int (nI 0), .null, .int (nI 0)]) C hin_Jxc12de_init_da8c8_Jx4a65c tyJx4a65c tyJx4a65c_ok nmJx4a65c hL0 hF0 rfl 0 (by decide) (by decide +kernel) (fun _ h9 => h9) rfl rfl rfl (Nat.le_of_ble_eq_true rfl) rfl dJxc12de_init_da8c8_6 (fun F1_ h2_ k3_ => ?_)
  have kc4_ : ∀ b, b ≠ h0 → F1_ b = F b := fun b q0 => k3_ b q0
  refine z_vret0 C rfl (by decide) (by decide) dJxc12de_init_da8c8_9 ?_
  exact ⟨rfl, rfl, h2_, kc4_⟩

set_option maxRecDepth 100000 in
theorem hin_Jx4a65c_init_da8c8_Jx4a65c : ∀ w ∈ u_ws RJx4a65c TJx4a65c 3, w ∈ wsJx4a65c_init_da8c8 := by decide +kernel
set_option maxHeartbeats 4000000 in
set_option maxRecDepth 100000 in
theorem c_Jx4a65c_init_da8c8 (l : Launch) (hlst : l.stackTraces = false) (G : zGt) (L : List Nat) (F : Nat → va_E) (h0 : Nat) (hL0 : h0 ∈ L) (hF0 : F h0 = .inr (0, [.int (nI 0), .null, .int (nI 0)])) : zM l yJx4a65c_init_da8c8 wsJx4a65c_init_da8c8 3 64 0 0 G L F [.ref h0] (fun rv L1 F1 => rv = none ∧ L1 = L ∧ F1 h0 = .inr (0, [.int (nI 0), .ref G.2.2.2.2.1, .int (nI 0)]) ∧ ∀ b, b ≠ h0 → F1 b = F b) := by
  refine z_of (cc := cJx4a65c_init_da8c8) (nL := 1) (ret := none) (own := RJx4a65c) hlst (by decide +kernel) rfl rfl (Nat.le_of_ble_eq_true rfl) ?_
  intro p e s m below meth c A hnm C
  refine z_lvs (lv' := [(0, .ref h0)]) rfl ?_
  refine z_aload_n C dJx4a65c_init_da8c8_0 rfl 0 rfl ?_
  refine z_callI (As := []) (st := []) (mc := 0) (ms := 0) C (c_Jxc12de_init_da8c8 l hlst G L F h0 hL0 hF0) (cwI 0 C.1.2.2.2.2 gJx4a65c_init_da8c8_Jxc12de_init_da8c8 rfl rfl rfl (C.1.2.2.2.2 _ (show Cond.initialized RJxc12de ∈ _ from (by decide +kernel))) (C.1.2.2.2.2 _ (show Cond.methodLink RJx4a65c 1 yJxc12de_init_da8c8 ∈ _ from (by decide +kernel))) (C.1.2.2.2.2 _ (show Cond.instanceMethod yJxc12de_init_da8c8 ∈ _ from (by decide +kernel))) rfl (by decide +kernel) ⟨Nat.le_of_ble_eq_true rfl, Nat.le_of_ble_eq_true rfl⟩) rfl (Nat.le_of_ble_eq_true rfl) ⟨Nat.le_of_ble_eq_true rfl, Nat.le_of_ble_eq_true rfl⟩ dJx4a65c_init_da8c8_1 (fun rv1_ L2_ F3_ hp4_ => ?_)
  obtain ⟨e5_, e6_, h7_, k8_⟩ := hp4_
  rw [e5_, e6_]
  have kc9_ : ∀ b, b ≠ h0 → F3_ b = F b := fun b q0 => k8_ b q0
  refine z_stk (st' := []) rfl ?_
  refine z_aload_n C dJx4a65c_init_da8c8_4 rfl 0 rfl ?_
  refine z_gets C (by decide +kernel) dJx4a65c_init_da8c8_5 ?_
  refine z_put (ref := "java/util/ArrayList") (v := .ref G.2.2.2.2.1) (fs' := [.int ((nI 0)), .ref G.2.2.2.2.1, .int (nI 0)]) C hin_Jx4a65c_init_da8c8_Jx4a65c tyJx4a65c tyJx4a65c_ok nmJx4a65c hL0 h7_ rfl 1 (by decide) (by decide +kernel) (fun _ h9 => h9) rfl rfl rfl (Nat.le_of_ble_eq_true rfl) rfl dJx4a65c_init_da8c8_8 (fun F10_ h11_ k12_ => ?_)
  have kc13_ : ∀ b, b ≠ h0 → F10_ b = F b := fun b q0 => (k12_ b q0).trans (kc9_ b q0)
  refine z_vret0 C rfl (by decide) (by decide) dJx4a65c_init_da8c8_11 ?_
  exact ⟨rfl, rfl, h11_, kc13_⟩

set_option maxRecDepth 100000 in
theorem hin_Jx4a65c_size_8abf5_Jx4a65c : ∀ w ∈ u_ws RJx4a65c TJx4a65c 3, w ∈ wsJx4a65c_size_8abf5 := by decide +kernel
set_option maxHeartbeats 4000000 in
set_option maxRecDepth 100000 in
theorem c_Jx4a65c_size_8abf5 (l : Launch) (hlst : l.stackTraces = false) (G : zGt) (L : List Nat) (F : Nat → va_E) (h0 : Nat) (mo : Int32) (ea n : Nat) (hL0 : h0 ∈ L) (hF0 : F h0 = .inr (0, [.int mo, .ref ea, .int (nI n)])) : zM l yJx4a65c_size_8abf5 wsJx4a65c_size_8abf5 1 24 0 0 G L F [.ref h0] (fun rv L1 F1 => rv = some (.int (nI n)) ∧ L1 = L ∧ F1 = F) := by
  refine z_of (cc := cJx4a65c_size_8abf5) (nL := 1) (ret := (some .int)) (own := RJx4a65c) hlst (by decide +kernel) rfl rfl (Nat.le_of_ble_eq_true rfl) ?_
  intro p e s m below meth c A hnm C
  refine z_lvs (lv' := [(0, .ref h0)]) rfl ?_
  refine z_aload_n C dJx4a65c_size_8abf5_0 rfl 0 rfl ?_
  refine z_get (ref := "java/util/ArrayList") (v := .int (nI n)) C hin_Jx4a65c_size_8abf5_Jx4a65c hL0 hF0 rfl 2 (by decide) (by decide +kernel) (fun _ h9 => h9) rfl dJx4a65c_size_8abf5_1 ?_
  refine z_iret0 C rfl rfl (by decide) (by decide) dJx4a65c_size_8abf5_4 ?_
  exact ⟨rfl, rfl, rfl⟩

set_option maxHeartbeats 4000000 in
set_option maxRecDepth 100000 in
theorem c_J3_checkIndex_8e157 (l : Launch) (hlst : l.stackTraces = false) (G : zGt) (L : List Nat) (F : Nat → va_E) (ix n : Nat) (hi : ix < n) (hn : n < 1000) : zM l yJ3_checkIndex_8e157 wsJ3_checkIndex_8e157 7 90 0 0 G L F [.int (nI ix), .int (nI n), .null] (fun rv L1 F1 => rv = some (.int (nI ix)) ∧ L1 = L ∧ F1 = F) := by
  refine z_of (cc := cJ3_checkIndex_8e157) (nL := 3) (ret := (some .int)) (own := RJ3) hlst (by decide +kernel) rfl rfl (Nat.le_of_ble_eq_true rfl) ?_
  intro p e s m below meth c A hnm C
  refine z_lvs (lv' := [(0, .int (nI ix)), (1, .int (nI n)), (2, .null)]) rfl ?_
  refine z_iload_n C dJ3_checkIndex_8e157_0 rfl 0 rfl ?_
  refine z_if_lt C 9 (((ix : Nat) : Int) < (0 : Int)) (zi_lt (zi_N (n := ix) (by omega)) zi_0) dJ3_checkIndex_8e157_1 (by decide) (fun c1_ => absurd c1_ (by omega)) (fun c1_ => ?_)
  refine z_iload_n C dJ3_checkIndex_8e157_4 rfl 0 rfl ?_
  refine z_iload_n C dJ3_checkIndex_8e157_5 rfl 1 rfl ?_
  refine z_icmp_lt C 16 (((ix : Nat) : Int) < ((n : Nat) : Int)) (zi_lt (zi_N (n := ix) (by omega)) (zi_N (n := n) (by omega))) dJ3_checkIndex_8e157_6 (by decide) (fun c2_ => ?_) (fun c2_ => absurd c2_ (by omega))
  refine z_iload_n C dJ3_checkIndex_8e157_16 rfl 0 rfl ?_
  refine z_iret0 C rfl rfl (by decide) (by decide) dJ3_checkIndex_8e157_17 ?_
  exact ⟨rfl, rfl, rfl⟩

set_option maxHeartbeats 4000000 in
set_option maxRecDepth 100000 in
theorem c_J15_checkIndex_7cf53 (l : Launch) (hlst : l.stackTraces = false) (G : zGt) (L : List Nat) (F : Nat → va_E) (ix n : Nat) (hi : ix < n) (hn : n < 1000) : zM l yJ15_checkIndex_7cf53 wsJ15_checkIndex_7cf53 8 112 0 0 G L F [.int (nI ix), .int (nI n)] (fun rv L1 F1 => rv = some (.int (nI ix)) ∧ L1 = L ∧ F1 = F) := by
  refine z_of (cc := cJ15_checkIndex_7cf53) (nL := 2) (ret := (some .int)) (own := RJ15) hlst (by decide +kernel) rfl rfl (Nat.le_of_ble_eq_true rfl) ?_
  intro p e s m below meth c A hnm C
  refine z_lvs (lv' := [(0, .int (nI ix)), (1, .int (nI n))]) rfl ?_
  refine z_iload_n C dJ15_checkIndex_7cf53_0 rfl 0 rfl ?_
  refine z_iload_n C dJ15_checkIndex_7cf53_1 rfl 1 rfl ?_
  refine z_null C dJ15_checkIndex_7cf53_2 ?_
  refine z_callS (As := [.int (nI ix), .int (nI n), .null]) (st := []) (mc := 0) (ms := 0) C (c_J3_checkIndex_8e157 l hlst G L F ix n (by omega) (by omega)) (va_cwS 3 C.1.2.2.2.2 gJ15_checkIndex_7cf53_J3_checkIndex_8e157 rfl rfl rfl (by decide +kernel) ⟨Nat.le_of_ble_eq_true rfl, Nat.le_of_ble_eq_true rfl⟩) rfl (Nat.le_of_ble_eq_true rfl) ⟨Nat.le_of_ble_eq_true rfl, Nat.le_of_ble_eq_true rfl⟩ dJ15_checkIndex_7cf53_3 (z_p ?_)
  refine z_stk (st' := [.int (nI ix)]) rfl ?_
  refine z_iret0 C rfl rfl (by decide) (by decide) dJ15_checkIndex_7cf53_6 ?_
  exact ⟨rfl, rfl, rfl⟩

set_option maxRecDepth 100000 in
theorem hin_Jx4a65c_elementData_915e3_Jx4a65c : ∀ w ∈ u_ws RJx4a65c TJx4a65c 3, w ∈ wsJx4a65c_elementData_915e3 := by decide +kernel
set_option maxHeartbeats 4000000 in
set_option maxRecDepth 100000 in
theorem c_Jx4a65c_elementData_915e3 (l : Launch) (hlst : l.stackTraces = false) (G : zGt) (L : List Nat) (F : Nat → va_E) (h0 : Nat) (mo : Int32) (ea n : Nat) (hL0 : h0 ∈ L) (hF0 : F h0 = .inr (0, [.int mo, .ref ea, .int (nI n)])) (nn ix vv : Nat) (fe : Nat → Option Nat) (hLe : ea ∈ L) (hFe : F ea = .inl (G.2.2.1, nn, .inr (.inr (.inr (.inr fe))))) (hi : ix < nn) (hnn : nn < 1000) (hv : fe ix = some vv) : zM l yJx4a65c_elementData_915e3 wsJx4a65c_elementData_915e3 1 24 0 0 G L F [.ref h0, .int (nI ix)] (fun rv L1 F1 => rv = some (.ref vv) ∧ L1 = L ∧ F1 = F) := by
  refine z_of (cc := cJx4a65c_elementData_915e3) (nL := 2) (ret := (some (.object "java/lang/Object"))) (own := RJx4a65c) hlst (by decide +kernel) rfl rfl (Nat.le_of_ble_eq_true rfl) ?_
  intro p e s m below meth c A hnm C
  refine z_lvs (lv' := [(0, .ref h0), (1, .int (nI ix))]) rfl ?_
  refine z_aload_n C dJx4a65c_elementData_915e3_0 rfl 0 rfl ?_
  refine z_get (ref := "java/util/ArrayList") (v := .ref ea) C hin_Jx4a65c_elementData_915e3_Jx4a65c hL0 hF0 rfl 1 (by decide) (by decide +kernel) (fun _ h9 => h9) rfl dJx4a65c_elementData_915e3_1 ?_
  refine z_iload_n C dJx4a65c_elementData_915e3_4 rfl 1 rfl ?_
  refine z_aldq C hLe hFe hi (by omega) dJx4a65c_elementData_915e3_5 vv (hv) ?_
  refine z_aret0 C rfl (by first | exact Or.inl ⟨_, rfl⟩ | exact Or.inr ⟨_, rfl⟩) (by decide) (by decide) dJx4a65c_elementData_915e3_6 ?_
  exact ⟨rfl, rfl, rfl⟩

set_option maxRecDepth 100000 in
theorem hin_Jx4a65c_get_915e3_Jx4a65c : ∀ w ∈ u_ws RJx4a65c TJx4a65c 3, w ∈ wsJx4a65c_get_915e3 := by decide +kernel
set_option maxHeartbeats 4000000 in
set_option maxRecDepth 100000 in
theorem c_Jx4a65c_get_915e3 (l : Launch) (hlst : l.stackTraces = false) (G : zGt) (L : List Nat) (F : Nat → va_E) (h0 : Nat) (mo : Int32) (ea n : Nat) (hL0 : h0 ∈ L) (hF0 : F h0 = .inr (0, [.int mo, .ref ea, .int (nI n)])) (nn ix vv : Nat) (fe : Nat → Option Nat) (hLe : ea ∈ L) (hFe : F ea = .inl (G.2.2.1, nn, .inr (.inr (.inr (.inr fe))))) (hi : ix < nn) (hnn : nn < 1000) (hv : fe ix = some vv) (hin : ix < n) (hn : n < 1000) : zM l yJx4a65c_get_915e3 wsJx4a65c_get_915e3 9 133 0 0 G L F [.ref h0, .int (nI ix)] (fun rv L1 F1 => rv = some (.ref vv) ∧ L1 = L ∧ F1 = F) := by
  refine z_of (cc := cJx4a65c_get_915e3) (nL := 2) (ret := (some (.object "java/lang/Object"))) (own := RJx4a65c) hlst (by decide +kernel) rfl rfl (Nat.le_of_ble_eq_true rfl) ?_
  intro p e s m below meth c A hnm C
  refine z_lvs (lv' := [(0, .ref h0), (1, .int (nI ix))]) rfl ?_
  refine z_iload_n C dJx4a65c_get_915e3_0 rfl 1 rfl ?_
  refine z_aload_n C dJx4a65c_get_915e3_1 rfl 0 rfl ?_
  refine z_get (ref := "java/util/ArrayList") (v := .int (nI n)) C hin_Jx4a65c_get_915e3_Jx4a65c hL0 hF0 rfl 2 (by decide) (by decide +kernel) (fun _ h9 => h9) rfl dJx4a65c_get_915e3_2 ?_
  refine z_callS (As := [.int (nI ix), .int (nI n)]) (st := []) (mc := 0) (ms := 0) C (c_J15_checkIndex_7cf53 l hlst G L F ix n (by omega) (by omega)) (va_cwS 2 C.1.2.2.2.2 gJx4a65c_get_915e3_J15_checkIndex_7cf53 rfl rfl rfl (by decide +kernel) ⟨Nat.le_of_ble_eq_true rfl, Nat.le_of_ble_eq_true rfl⟩) rfl (Nat.le_of_ble_eq_true rfl) ⟨Nat.le_of_ble_eq_true rfl, Nat.le_of_ble_eq_true rfl⟩ dJx4a65c_get_915e3_5 (z_p ?_)
  refine z_stk (st' := [.int (nI ix)]) rfl ?_
  refine z_pop C dJx4a65c_get_915e3_8 rfl ?_
  refine z_aload_n C dJx4a65c_get_915e3_9 rfl 0 rfl ?_
  refine z_iload_n C dJx4a65c_get_915e3_10 rfl 1 rfl ?_
  refine z_callV (As := [.int (nI ix)]) (st := []) (mc := 0) (ms := 0) C hL0 hF0 rfl (c_Jx4a65c_elementData_915e3 l hlst G L F h0 mo ea n hL0 hF0 nn ix vv fe hLe hFe (by omega) (by omega) hv) (cwV 1 C.1.2.2.2.2 gJx4a65c_get_915e3_Jx4a65c_elementData_915e3 rfl rfl rfl (by decide +kernel) ⟨Nat.le_of_ble_eq_true rfl, Nat.le_of_ble_eq_true rfl⟩) rfl (Nat.le_of_ble_eq_true rfl) ⟨Nat.le_of_ble_eq_true rfl, Nat.le_of_ble_eq_true rfl⟩ dJx4a65c_get_915e3_11 (z_p ?_)
  refine z_stk (st' := [.ref vv]) rfl ?_
  refine z_aret0 C rfl (by first | exact Or.inl ⟨_, rfl⟩ | exact Or.inr ⟨_, rfl⟩) (by decide) (by decide) dJx4a65c_get_915e3_14 ?_
  exact ⟨rfl, rfl, rfl⟩

set_option maxHeartbeats 4000000 in
set_option maxRecDepth 100000 in
theorem c_J8_newLength_cabcc (l : Launch) (hlst : l.stackTraces = false) (G : zGt) (L : List Nat) (F : Nat → va_E)  : zM l yJ8_newLength_cabcc wsJ8_newLength_cabcc 1 24 0 0 G L F [.int (nI 10), .int (nI 1), .int (nI 5)] (fun rv L1 F1 => rv = some (.int (nI 15)) ∧ L1 = L ∧ F1 = F) := by
  refine z_of (cc := cJ8_newLength_cabcc) (nL := 4) (ret := (some .int)) (own := RJ8) hlst (by decide +kernel) rfl rfl (Nat.le_of_ble_eq_true rfl) ?_
  intro p e s m below meth c A hnm C
  refine z_lvs (lv' := [(0, .int (nI 10)), (1, .int (nI 1)), (2, .int (nI 5))]) rfl ?_
  refine z_iload_n C dJ8_newLength_cabcc_0 rfl 0 rfl ?_
  refine z_iload_n C dJ8_newLength_cabcc_1 rfl 1 rfl ?_
  refine z_iload_n C dJ8_newLength_cabcc_2 rfl 2 rfl ?_
  refine z_max C (nI 5) (by decide +kernel) (by decide +kernel) (by decide +kernel) (by decide +kernel) (Nat.le_of_ble_eq_true rfl) (Nat.le_of_ble_eq_true rfl) (Nat.le_of_ble_eq_true rfl) (Nat.le_of_ble_eq_true rfl) dJ8_newLength_cabcc_3 (by decide) ?_
  refine z_iadd C (nI (10 + 5)) dJ8_newLength_cabcc_6 (nI_add 10 5) ?_
  refine z_istore_n (lv' := [(3, .int (nI (10 + 5))), (0, .int (nI 10)), (1, .int (nI 1)), (2, .int (nI 5))]) C dJ8_newLength_cabcc_7 rfl (by decide) rfl ?_
  refine z_iconst C (nI 0) dJ8_newLength_cabcc_8 (by decide) ?_
  refine z_iload_n C dJ8_newLength_cabcc_9 rfl 0 rfl ?_
  refine z_icmp_ge C 21 (((10 + 5 : Nat) : Int) ≤ ((0 : Nat) : Int)) (zi_le (zi_N (n := 10 + 5) (by omega)) (zi_N (n := 0) (by omega))) dJ8_newLength_cabcc_10 (by decide) (fun c1_ => absurd c1_ (by omega)) (fun c1_ => ?_)
  refine z_iload_n C dJ8_newLength_cabcc_13 rfl 0 rfl ?_
  refine z_ldcI C (nI 2147483639) (by decide +kernel) dJ8_newLength_cabcc_14 ?_
  refine z_icmp_gt C 21 (((2147483639 : Nat) : Int) < ((10 + 5 : Nat) : Int)) (zi_lt (zi_N (n := 2147483639) (by omega)) (zi_N (n := 10 + 5) (by omega))) dJ8_newLength_cabcc_16 (by decide) (fun c2_ => absurd c2_ (by omega)) (fun c2_ => ?_)
  refine z_iload_n C dJ8_newLength_cabcc_19 rfl 0 rfl ?_
  refine z_iret0 C rfl rfl (by decide) (by decide) dJ8_newLength_cabcc_20 ?_
  exact ⟨rfl, rfl, rfl⟩

set_option maxHeartbeats 4000000 in
set_option maxRecDepth 100000 in
theorem c_J7_copyOf_6403c (l : Launch) (hlst : l.stackTraces = false) (G : zGt) (L : List Nat) (F : Nat → va_E) (ea : Nat) (fe : Nat → Option Nat) (hLe : ea ∈ L) (hFe : F ea = .inl (G.2.2.1, 10, .inr (.inr (.inr (.inr fe))))) (hel : ∀ i, i < 10 → ∀ y, fe i = some y → y ∈ L ∧ ∃ fs, F y = .inr (1, fs)) : zM l yJ7_copyOf_6403c wsJ7_copyOf_6403c 1 24 1 15 G L F [.ref ea, .int (nI 15), .ref G.2.2.2.2.2] (fun rv L1 F1 => ∃ q : Nat, rv = some (.ref q) ∧ L1 = L ++ [q] ∧ q ∉ L ∧ F1 q = .inl (G.2.2.1, 15, .inr (.inr (.inr (.inr (va_cpy fe (fun _ => none) 0 0 10))))) ∧ ∀ b, b ≠ q → F1 b = F b) := by
  refine z_of (cc := cJ7_copyOf_6403c) (nL := 4) (ret := (some (.array (.object "java/lang/Object")))) (own := RJ7) hlst (by decide +kernel) rfl rfl (Nat.le_of_ble_eq_true rfl) ?_
  intro p e s m below meth c A hnm C
  refine z_lvs (lv' := [(0, .ref ea), (1, .int (nI 15)), (2, .ref G.2.2.2.2.2)]) rfl ?_
  refine z_aload_n C dJ7_copyOf_6403c_0 rfl 2 rfl ?_
  refine z_ldcM C (by decide +kernel) dJ7_copyOf_6403c_1 ?_
  refine z_acmp_neF C 13 rfl dJ7_copyOf_6403c_3 (by decide) ?_
  refine z_iload_n C dJ7_copyOf_6403c_6 rfl 1 rfl ?_
  refine z_newq C (by decide) (by decide +kernel) (Nat.le_of_ble_eq_true rfl) (Nat.le_of_ble_eq_true rfl) dJ7_copyOf_6403c_7 (fun q1_ F2_ hq3_ h4_ k5_ => ?_)
  have hL6_ : ea ∈ (L ++ [q1_]) := List.mem_append_left _ hLe
  have nq7_ : ea ≠ q1_ := fun h9 => hq3_ (h9 ▸ hLe)
  have hL8_ : q1_ ∈ (L ++ [q1_]) := List.mem_append_right _ (List.mem_singleton.mpr rfl)
  have h9_ : F2_ ea = .inl (G.2.2.1, 10, .inr (.inr (.inr (.inr fe)))) := (k5_ ea nq7_).trans hFe
  have kc10_ : ∀ b, b ≠ q1_ → F2_ b = F b := fun b q0 => k5_ b q0
  refine z_goto C 24 dJ7_copyOf_6403c_10 (by decide) ?_
  refine z_astore_n (lv' := [(3, .ref q1_), (0, .ref ea), (1, .int (nI 15)), (2, .ref G.2.2.2.2.2)]) C dJ7_copyOf_6403c_24 rfl (by decide) rfl ?_
  refine z_aload_n C dJ7_copyOf_6403c_25 rfl 1 rfl ?_
  refine z_iconst C (nI 0) dJ7_copyOf_6403c_26 (by decide) ?_
  refine z_aload_n C dJ7_copyOf_6403c_27 rfl 0 rfl ?_
  refine z_iconst C (nI 0) dJ7_copyOf_6403c_28 (by decide) ?_
  refine z_aload_n C dJ7_copyOf_6403c_29 rfl 1 rfl ?_
  refine z_alenq C hL6_ h9_ dJ7_copyOf_6403c_30 ?_
  refine z_iload_n C dJ7_copyOf_6403c_31 rfl 2 rfl ?_
  refine z_min C (nI 10) (by decide +kernel) (by decide +kernel) (by decide +kernel) (by decide +kernel) (Nat.le_of_ble_eq_true rfl) (Nat.le_of_ble_eq_true rfl) (Nat.le_of_ble_eq_true rfl) (Nat.le_of_ble_eq_true rfl) dJ7_copyOf_6403c_32 (by decide) ?_
  refine z_copyq C hL6_ h9_ hL8_ h4_ (by omega) (by omega) (by omega) (fun i hi y hy => (by obtain ⟨g1, fs, g2⟩ := hel i hi y hy; exact ⟨List.mem_append_left _ g1, fs, (kc10_ y (fun e => hq3_ (e ▸ g1))).trans g2⟩)) (by decide +kernel) (by decide +kernel) (by decide +kernel) (by decide +kernel) (Nat.le_of_ble_eq_true rfl) (by decide +kernel) dJ7_copyOf_6403c_35 (fun F11_ h12_ k13_ => ?_)
  have h14_ : F11_ ea = .inl (G.2.2.1, 10, .inr (.inr (.inr (.inr fe)))) := (k13_ ea nq7_).trans h9_
  have kc15_ : ∀ b, b ≠ q1_ → F11_ b = F b := fun b q0 => (k13_ b q0).trans (kc10_ b q0)
  refine z_aload_n C dJ7_copyOf_6403c_38 rfl 0 rfl ?_
  refine z_aret0 C rfl (by first | exact Or.inl ⟨_, rfl⟩ | exact Or.inr ⟨_, rfl⟩) (by decide) (by decide) dJ7_copyOf_6403c_39 ?_
  exact ⟨q1_, rfl, rfl, hq3_, h12_, kc15_⟩

set_option maxHeartbeats 4000000 in
set_option maxRecDepth 100000 in
theorem c_J7_copyOf_1904c (l : Launch) (hlst : l.stackTraces = false) (G : zGt) (L : List Nat) (F : Nat → va_E) (ea : Nat) (fe : Nat → Option Nat) (hLe : ea ∈ L) (hFe : F ea = .inl (G.2.2.1, 10, .inr (.inr (.inr (.inr fe))))) (hel : ∀ i, i < 10 → ∀ y, fe i = some y → y ∈ L ∧ ∃ fs, F y = .inr (1, fs)) : zM l yJ7_copyOf_1904c wsJ7_copyOf_1904c 2 47 1 15 G L F [.ref ea, .int (nI 15)] (fun rv L1 F1 => ∃ q : Nat, rv = some (.ref q) ∧ L1 = L ++ [q] ∧ q ∉ L ∧ F1 q = .inl (G.2.2.1, 15, .inr (.inr (.inr (.inr (va_cpy fe (fun _ => none) 0 0 10))))) ∧ ∀ b, b ≠ q → F1 b = F b) := by
  refine z_of (cc := cJ7_copyOf_1904c) (nL := 2) (ret := (some (.array (.object "java/lang/Object")))) (own := RJ7) hlst (by decide +kernel) rfl rfl (Nat.le_of_ble_eq_true rfl) ?_
  intro p e s m below meth c A hnm C
  refine z_lvs (lv' := [(0, .ref ea), (1, .int (nI 15))]) rfl ?_
  refine z_aload_n C dJ7_copyOf_1904c_0 rfl 0 rfl ?_
  refine z_iload_n C dJ7_copyOf_1904c_1 rfl 1 rfl ?_
  refine z_aload_n C dJ7_copyOf_1904c_2 rfl 0 rfl ?_
  refine z_getC C hLe hFe (by decide +kernel) (by decide +kernel) (by decide +kernel) (by decide +kernel) (Nat.le_of_ble_eq_true rfl) (Nat.le_of_ble_eq_true rfl) dJ7_copyOf_1904c_3 ?_
  refine z_callS (As := [.ref ea, .int (nI 15), .ref G.2.2.2.2.2]) (st := []) (mc := 1) (ms := 15) C (c_J7_copyOf_6403c l hlst G L F ea fe hLe hFe hel) (va_cwS 3 C.1.2.2.2.2 gJ7_copyOf_1904c_J7_copyOf_6403c rfl rfl rfl (by decide +kernel) ⟨Nat.le_of_ble_eq_true rfl, Nat.le_of_ble_eq_true rfl⟩) rfl (Nat.le_of_ble_eq_true rfl) ⟨Nat.le_of_ble_eq_true rfl, Nat.le_of_ble_eq_true rfl⟩ dJ7_copyOf_1904c_6 (fun rv2_ L3_ F4_ hp5_ => ?_)
  obtain ⟨q1_, e6_, e7_, hq8_, h9_, k10_⟩ := hp5_
  rw [e6_, e7_]
  have hL11_ : ea ∈ (L ++ [q1_]) := List.mem_append_left _ hLe
  have nq12_ : ea ≠ q1_ := fun h9 => hq8_ (h9 ▸ hLe)
  have hL13_ : q1_ ∈ (L ++ [q1_]) := List.mem_append_right _ (List.mem_singleton.mpr rfl)
  have h14_ : F4_ ea = .inl (G.2.2.1, 10, .inr (.inr (.inr (.inr fe)))) := (k10_ ea nq12_).trans hFe
  have kc15_ : ∀ b, b ≠ q1_ → F4_ b = F b := fun b q0 => k10_ b q0
  refine z_stk (st' := [.ref q1_]) rfl ?_
  refine z_aret0 C rfl (by first | exact Or.inl ⟨_, rfl⟩ | exact Or.inr ⟨_, rfl⟩) (by decide) (by decide) dJ7_copyOf_1904c_9 ?_
  exact ⟨q1_, rfl, rfl, hq8_, h9_, kc15_⟩

set_option maxRecDepth 100000 in
theorem hin_Jx4a65c_grow_92f84_Jx4a65c : ∀ w ∈ u_ws RJx4a65c TJx4a65c 3, w ∈ wsJx4a65c_grow_92f84 := by decide +kernel
set_option maxHeartbeats 4000000 in
set_option maxRecDepth 100000 in
theorem c_Jx4a65c_grow_92f84a (l : Launch) (hlst : l.stackTraces = false) (G : zGt) (L : List Nat) (F : Nat → va_E) (h0 : Nat) (mo : Int32) (hL0 : h0 ∈ L) (hF0 : F h0 = .inr (0, [.int mo, .ref G.2.2.2.2.1, .int (nI 0)])) : zM l yJx4a65c_grow_92f84 wsJx4a65c_grow_92f84 3 68 1 15 G L F [.ref h0, .int (nI 1)] (fun rv L1 F1 => ∃ q : Nat, rv = some (.ref q) ∧ L1 = L ++ [q] ∧ q ∉ L ∧ F1 q = .inl (G.2.2.1, 10, .inr (.inr (.inr (.inr (fun _ => none))))) ∧ F1 h0 = .inr (0, [.int mo, .ref q, .int (nI 0)]) ∧ ∀ b, b ≠ h0 → b ≠ q → F1 b = F b) := by
  refine z_of (cc := cJx4a65c_grow_92f84) (nL := 4) (ret := (some (.array (.object "java/lang/Object")))) (own := RJx4a65c) hlst (by decide +kernel) rfl rfl (Nat.le_of_ble_eq_true rfl) ?_
  intro p e s m below meth c A hnm C
  refine z_lvs (lv' := [(0, .ref h0), (1, .int (nI 1))]) rfl ?_
  refine z_aload_n C dJx4a65c_grow_92f84_0 rfl 0 rfl ?_
  refine z_get (ref := "java/util/ArrayList") (v := .ref G.2.2.2.2.1) C hin_Jx4a65c_grow_92f84_Jx4a65c hL0 hF0 rfl 1 (by decide) (by decide +kernel) (fun _ h9 => h9) rfl dJx4a65c_grow_92f84_1 ?_
  refine z_tlen C dJx4a65c_grow_92f84_4 ?_
  refine z_istore_n (lv' := [(2, .int (nI 0)), (0, .ref h0), (1, .int (nI 1))]) C dJx4a65c_grow_92f84_5 rfl (by decide) rfl ?_
  refine z_iload_n C dJx4a65c_grow_92f84_6 rfl 0 rfl ?_
  refine z_if_gt C 20 ((0 : Int) < ((0 : Nat) : Int)) (zi_lt zi_0 (zi_N (n := 0) (by omega))) dJx4a65c_grow_92f84_7 (by decide) (fun c1_ => absurd c1_ (by omega)) (fun c1_ => ?_)
  refine z_aload_n C dJx4a65c_grow_92f84_10 rfl 1 rfl ?_
  refine z_get (ref := "java/util/ArrayList") (v := .ref G.2.2.2.2.1) C hin_Jx4a65c_grow_92f84_Jx4a65c hL0 hF0 rfl 1 (by decide) (by decide +kernel) (fun _ h9 => h9) rfl dJx4a65c_grow_92f84_11 ?_
  refine z_gets C (by decide +kernel) dJx4a65c_grow_92f84_14 ?_
  refine z_acmp_eqT C 45 rfl dJx4a65c_grow_92f84_17 (by decide) ?_
  refine z_aload_n C dJx4a65c_grow_92f84_45 rfl 1 rfl ?_
  refine z_bipush C (nI 10) dJx4a65c_grow_92f84_46 (by decide) ?_
  refine z_iload_n C dJx4a65c_grow_92f84_48 rfl 2 rfl ?_
  refine z_max C (nI 10) (by decide +kernel) (by decide +kernel) (by decide +kernel) (by decide +kernel) (Nat.le_of_ble_eq_true rfl) (Nat.le_of_ble_eq_true rfl) (Nat.le_of_ble_eq_true rfl) (Nat.le_of_ble_eq_true rfl) dJx4a65c_grow_92f84_49 (by decide) ?_
  refine z_newq C (by decide) (by decide +kernel) (Nat.le_of_ble_eq_true rfl) (Nat.le_of_ble_eq_true rfl) dJx4a65c_grow_92f84_52 (fun q2_ F3_ hq4_ h5_ k6_ => ?_)
  have hL7_ : h0 ∈ (L ++ [q2_]) := List.mem_append_left _ hL0
  have nq8_ : h0 ≠ q2_ := fun h9 => hq4_ (h9 ▸ hL0)
  have hL9_ : q2_ ∈ (L ++ [q2_]) := List.mem_append_right _ (List.mem_singleton.mpr rfl)
  have h10_ : F3_ h0 = .inr (0, [.int mo, .ref G.2.2.2.2.1, .int (nI 0)]) := (k6_ h0 nq8_).trans hF0
  have kc11_ : ∀ b, b ≠ q2_ → F3_ b = F b := fun b q0 => k6_ b q0
  refine z_dup_x1 C dJx4a65c_grow_92f84_55 rfl rfl ?_
  refine z_put (ref := "java/util/ArrayList") (v := .ref q2_) (fs' := [.int mo, .ref q2_, .int (nI 0)]) C hin_Jx4a65c_grow_92f84_Jx4a65c tyJx4a65c tyJx4a65c_ok nmJx4a65c hL7_ h10_ rfl 1 (by decide) (by decide +kernel) (fun _ h9 => h9) rfl rfl rfl (Nat.le_of_ble_eq_true rfl) rfl dJx4a65c_grow_92f84_56 (fun F12_ h13_ k14_ => ?_)
  have h15_ : F12_ q2_ = .inl (G.2.2.1, 10, .inr (.inr (.inr (.inr (fun _ => none))))) := (k14_ q2_ (Ne.symm nq8_)).trans h5_
  have kc16_ : ∀ b, b ≠ h0 → b ≠ q2_ → F12_ b = F b := fun b q0 q1 => (k14_ b q0).trans (kc11_ b q1)
  refine z_aret0 C rfl (by first | exact Or.inl ⟨_, rfl⟩ | exact Or.inr ⟨_, rfl⟩) (by decide) (by decide) dJx4a65c_grow_92f84_59 ?_
  exact ⟨q2_, rfl, rfl, hq4_, h15_, h13_, fun b g1 g2 => kc16_ b g1 g2⟩

set_option maxRecDepth 100000 in
theorem hin_Jx4a65c_grow_d5877_Jx4a65c : ∀ w ∈ u_ws RJx4a65c TJx4a65c 3, w ∈ wsJx4a65c_grow_d5877 := by decide +kernel
set_option maxHeartbeats 4000000 in
set_option maxRecDepth 100000 in
theorem c_Jx4a65c_grow_d5877a (l : Launch) (hlst : l.stackTraces = false) (G : zGt) (L : List Nat) (F : Nat → va_E) (h0 : Nat) (mo : Int32) (hL0 : h0 ∈ L) (hF0 : F h0 = .inr (0, [.int mo, .ref G.2.2.2.2.1, .int (nI 0)])) : zM l yJx4a65c_grow_d5877 wsJx4a65c_grow_d5877 4 91 1 15 G L F [.ref h0] (fun rv L1 F1 => ∃ q : Nat, rv = some (.ref q) ∧ L1 = L ++ [q] ∧ q ∉ L ∧ F1 q = .inl (G.2.2.1, 10, .inr (.inr (.inr (.inr (fun _ => none))))) ∧ F1 h0 = .inr (0, [.int mo, .ref q, .int (nI 0)]) ∧ ∀ b, b ≠ h0 → b ≠ q → F1 b = F b) := by
  refine z_of (cc := cJx4a65c_grow_d5877) (nL := 1) (ret := (some (.array (.object "java/lang/Object")))) (own := RJx4a65c) hlst (by decide +kernel) rfl rfl (Nat.le_of_ble_eq_true rfl) ?_
  intro p e s m below meth c A hnm C
  refine z_lvs (lv' := [(0, .ref h0)]) rfl ?_
  refine z_aload_n C dJx4a65c_grow_d5877_0 rfl 0 rfl ?_
  refine z_aload_n C dJx4a65c_grow_d5877_1 rfl 0 rfl ?_
  refine z_get (ref := "java/util/ArrayList") (v := .int (nI 0)) C hin_Jx4a65c_grow_d5877_Jx4a65c hL0 hF0 rfl 2 (by decide) (by decide +kernel) (fun _ h9 => h9) rfl dJx4a65c_grow_d5877_2 ?_
  refine z_iconst C (nI 1) dJx4a65c_grow_d5877_5 (by decide) ?_
  refine z_iadd C (nI 1) dJx4a65c_grow_d5877_6 (by decide) ?_
  refine z_callV (As := [.int (nI 1)]) (st := []) (mc := 1) (ms := 15) C hL0 hF0 rfl (c_Jx4a65c_grow_92f84a l hlst G L F h0 mo hL0 hF0) (cwV 1 C.1.2.2.2.2 gJx4a65c_grow_d5877_Jx4a65c_grow_92f84 rfl rfl rfl (by decide +kernel) ⟨Nat.le_of_ble_eq_true rfl, Nat.le_of_ble_eq_true rfl⟩) rfl (Nat.le_of_ble_eq_true rfl) ⟨Nat.le_of_ble_eq_true rfl, Nat.le_of_ble_eq_true rfl⟩ dJx4a65c_grow_d5877_7 (fun rv2_ L3_ F4_ hp5_ => ?_)
  obtain ⟨q1_, e6_, e7_, hq8_, h9_, h10_, k11_⟩ := hp5_
  rw [e6_, e7_]
  have hL12_ : h0 ∈ (L ++ [q1_]) := List.mem_append_left _ hL0
  have nq13_ : h0 ≠ q1_ := fun h9 => hq8_ (h9 ▸ hL0)
  have hL14_ : q1_ ∈ (L ++ [q1_]) := List.mem_append_right _ (List.mem_singleton.mpr rfl)
  have kc15_ : ∀ b, b ≠ h0 → b ≠ q1_ → F4_ b = F b := fun b q0 q1 => k11_ b q0 q1
  refine z_stk (st' := [.ref q1_]) rfl ?_
  refine z_aret0 C rfl (by first | exact Or.inl ⟨_, rfl⟩ | exact Or.inr ⟨_, rfl⟩) (by decide) (by decide) dJx4a65c_grow_d5877_10 ?_
  exact ⟨q1_, rfl, rfl, hq8_, h9_, h10_, fun b g1 g2 => kc15_ b g1 g2⟩

set_option maxRecDepth 100000 in
theorem hin_Jx4a65c_add_72be8_Jx4a65c : ∀ w ∈ u_ws RJx4a65c TJx4a65c 3, w ∈ wsJx4a65c_add_72be8 := by decide +kernel
set_option maxHeartbeats 4000000 in
set_option maxRecDepth 100000 in
theorem c_Jx4a65c_add_72be8a (l : Launch) (hlst : l.stackTraces = false) (G : zGt) (L : List Nat) (F : Nat → va_E) (h0 : Nat) (mo : Int32) (hL0 : h0 ∈ L) (hF0 : F h0 = .inr (0, [.int mo, .ref G.2.2.2.2.1, .int (nI 0)])) (vv : Nat) (fsv : List Value) (hLv : vv ∈ L) (hFv : F vv = .inr (1, fsv)) (fe : Nat → Option Nat) : zM l yJx4a65c_add_72be8 wsJx4a65c_add_72be8 5 111 1 15 G L F [.ref h0, .ref vv, .ref G.2.2.2.2.1, .int (nI 0)] (fun rv L1 F1 => ∃ (ea' N' : Nat) (f' : Nat → Option Nat), rv = none ∧ (L1 = L ∨ ∃ q, q ∉ L ∧ L1 = L ++ [q]) ∧ ea' ∈ L1 ∧ F1 ea' = .inl (G.2.2.1, N', .inr (.inr (.inr (.inr f')))) ∧ 0 + 1 ≤ N' ∧ (N' = 10 ∨ N' = 15) ∧ (∀ k, k < 0 → f' k = fe k) ∧ f' 0 = some vv ∧ F1 h0 = .inr (0, [.int mo, .ref ea', .int (nI (0 + 1))]) ∧ (∀ b, b ∈ L → b ≠ h0 → b ≠ G.2.2.2.2.1 → F1 b = F b) ∧ (ea' = G.2.2.2.2.1 ∨ ea' ∉ L)) := by
  refine z_of (cc := cJx4a65c_add_72be8) (nL := 4) (ret := none) (own := RJx4a65c) hlst (by decide +kernel) rfl rfl (Nat.le_of_ble_eq_true rfl) ?_
  intro p e s m below meth c A hnm C
  refine z_lvs (lv' := [(0, .ref h0), (1, .ref vv), (2, .ref G.2.2.2.2.1), (3, .int (nI 0))]) rfl ?_
  refine z_iload_n C dJx4a65c_add_72be8_0 rfl 3 rfl ?_
  refine z_aload_n C dJx4a65c_add_72be8_1 rfl 2 rfl ?_
  refine z_tlen C dJx4a65c_add_72be8_2 ?_
  refine z_icmp_ne C 11 (((0 : Nat) : Int) = ((0 : Nat) : Int)) (zi_eq (zi_N (n := 0) (by omega)) (zi_N (n := 0) (by omega))) dJx4a65c_add_72be8_3 (by decide) (fun c1_ => absurd c1_ (by omega)) (fun c1_ => ?_)
  refine z_aload_n C dJx4a65c_add_72be8_6 rfl 0 rfl ?_
  refine z_callV (As := []) (st := []) (mc := 1) (ms := 15) C hL0 hF0 rfl (c_Jx4a65c_grow_d5877a l hlst G L F h0 mo hL0 hF0) (cwV 0 C.1.2.2.2.2 gJx4a65c_add_72be8_Jx4a65c_grow_d5877 rfl rfl rfl (by decide +kernel) ⟨Nat.le_of_ble_eq_true rfl, Nat.le_of_ble_eq_true rfl⟩) rfl (Nat.le_of_ble_eq_true rfl) ⟨Nat.le_of_ble_eq_true rfl, Nat.le_of_ble_eq_true rfl⟩ dJx4a65c_add_72be8_7 (fun rv3_ L4_ F5_ hp6_ => ?_)
  obtain ⟨q2_, e7_, e8_, hq9_, h10_, h11_, k12_⟩ := hp6_
  rw [e7_, e8_]
  have hL13_ : h0 ∈ (L ++ [q2_]) := List.mem_append_left _ hL0
  have nq14_ : h0 ≠ q2_ := fun h9 => hq9_ (h9 ▸ hL0)
  have hL15_ : vv ∈ (L ++ [q2_]) := List.mem_append_left _ hLv
  have nq16_ : vv ≠ q2_ := fun h9 => hq9_ (h9 ▸ hLv)
  have hL17_ : q2_ ∈ (L ++ [q2_]) := List.mem_append_right _ (List.mem_singleton.mpr rfl)
  have h18_ : F5_ vv = .inr (1, fsv) := (k12_ vv (zne hFv hF0 rfl) nq16_).trans hFv
  have kc19_ : ∀ b, b ≠ h0 → b ≠ q2_ → F5_ b = F b := fun b q0 q1 => k12_ b q0 q1
  refine z_stk (st' := [.ref q2_]) rfl ?_
  refine z_astore_n (lv' := [(2, .ref q2_), (0, .ref h0), (1, .ref vv), (3, .int (nI 0))]) C dJx4a65c_add_72be8_10 rfl (by decide) rfl ?_
  refine z_aload_n C dJx4a65c_add_72be8_11 rfl 0 rfl ?_
  refine z_iload_n C dJx4a65c_add_72be8_12 rfl 3 rfl ?_
  refine z_aload_n C dJx4a65c_add_72be8_13 rfl 2 rfl ?_
  refine z_astq C hL17_ h10_ (by omega) (by omega) hL15_ h18_ dJx4a65c_add_72be8_14 (fun F20_ h21_ k22_ => ?_)
  have h23_ : F20_ h0 = .inr (0, [.int mo, .ref q2_, .int (nI 0)]) := (k22_ h0 nq14_).trans h11_
  have h24_ : F20_ vv = .inr (1, fsv) := (k22_ vv nq16_).trans h18_
  have kc25_ : ∀ b, b ≠ h0 → b ≠ q2_ → F20_ b = F b := fun b q0 q1 => (k22_ b q1).trans (kc19_ b q0 q1)
  refine z_aload_n C dJx4a65c_add_72be8_15 rfl 1 rfl ?_
  refine z_iload_n C dJx4a65c_add_72be8_16 rfl 3 rfl ?_
  refine z_iconst C (nI 1) dJx4a65c_add_72be8_17 (by decide) ?_
  refine z_iadd C (nI (0 + 1)) dJx4a65c_add_72be8_18 (nI_add 0 1) ?_
  refine z_put (ref := "java/util/ArrayList") (v := .int (nI (0 + 1))) (fs' := [.int mo, .ref q2_, .int (nI (0 + 1))]) C hin_Jx4a65c_add_72be8_Jx4a65c tyJx4a65c tyJx4a65c_ok nmJx4a65c hL13_ h23_ rfl 2 (by decide) (by decide +kernel) (fun _ h9 => h9) rfl rfl rfl (Nat.le_of_ble_eq_true rfl) rfl dJx4a65c_add_72be8_19 (fun F26_ h27_ k28_ => ?_)
  have h29_ : F26_ vv = .inr (1, fsv) := (k28_ vv (zne h24_ h23_ rfl)).trans h24_
  have h30_ : F26_ q2_ = .inl (G.2.2.1, 10, .inr (.inr (.inr (.inr (va_up ((fun _ => none)) 0 (some vv)))))) := (k28_ q2_ (Ne.symm nq14_)).trans h21_
  have kc31_ : ∀ b, b ≠ h0 → b ≠ q2_ → F26_ b = F b := fun b q0 q1 => (k28_ b q0).trans (kc25_ b q0 q1)
  refine z_vret0 C rfl (by decide) (by decide) dJx4a65c_add_72be8_22 ?_
  exact ⟨q2_, 10, _, rfl, Or.inr ⟨q2_, hq9_, rfl⟩, hL17_, h30_, by omega, Or.inl rfl, fun k hk => absurd hk (Nat.not_lt_zero _), va_up_self _ _ _, h27_, fun b hb g1 g2 => kc31_ b g1 (fun e => hq9_ (e ▸ hb)), Or.inr hq9_⟩

set_option maxRecDepth 100000 in
theorem hin_Jx4a65c_grow_92f84c_Jx4a65c : ∀ w ∈ u_ws RJx4a65c TJx4a65c 3, w ∈ wsJx4a65c_grow_92f84 := by decide +kernel
set_option maxHeartbeats 4000000 in
set_option maxRecDepth 100000 in
theorem c_Jx4a65c_grow_92f84c (l : Launch) (hlst : l.stackTraces = false) (G : zGt) (L : List Nat) (F : Nat → va_E) (h0 : Nat) (mo : Int32) (ea : Nat) (hL0 : h0 ∈ L) (hF0 : F h0 = .inr (0, [.int mo, .ref ea, .int (nI 10)])) (fe : Nat → Option Nat) (hLe : ea ∈ L) (hFe : F ea = .inl (G.2.2.1, 10, .inr (.inr (.inr (.inr fe))))) (hel : ∀ i, i < 10 → ∀ y, fe i = some y → y ∈ L ∧ ∃ fs, F y = .inr (1, fs)) : zM l yJx4a65c_grow_92f84 wsJx4a65c_grow_92f84 3 68 1 15 G L F [.ref h0, .int (nI 11)] (fun rv L1 F1 => ∃ q : Nat, rv = some (.ref q) ∧ L1 = L ++ [q] ∧ q ∉ L ∧ F1 q = .inl (G.2.2.1, 15, .inr (.inr (.inr (.inr (va_cpy fe (fun _ => none) 0 0 10))))) ∧ F1 h0 = .inr (0, [.int mo, .ref q, .int (nI 10)]) ∧ ∀ b, b ≠ h0 → b ≠ q → F1 b = F b) := by
  refine z_of (cc := cJx4a65c_grow_92f84) (nL := 4) (ret := (some (.array (.object "java/lang/Object")))) (own := RJx4a65c) hlst (by decide +kernel) rfl rfl (Nat.le_of_ble_eq_true rfl) ?_
  intro p e s m below meth c A hnm C
  refine z_lvs (lv' := [(0, .ref h0), (1, .int (nI 11))]) rfl ?_
  refine z_aload_n C dJx4a65c_grow_92f84_0 rfl 0 rfl ?_
  refine z_get (ref := "java/util/ArrayList") (v := .ref ea) C hin_Jx4a65c_grow_92f84c_Jx4a65c hL0 hF0 rfl 1 (by decide) (by decide +kernel) (fun _ h9 => h9) rfl dJx4a65c_grow_92f84_1 ?_
  refine z_alenq C hLe hFe dJx4a65c_grow_92f84_4 ?_
  refine z_istore_n (lv' := [(2, .int (nI 10)), (0, .ref h0), (1, .int (nI 11))]) C dJx4a65c_grow_92f84_5 rfl (by decide) rfl ?_
  refine z_iload_n C dJx4a65c_grow_92f84_6 rfl 0 rfl ?_
  refine z_if_gt C 20 ((0 : Int) < ((10 : Nat) : Int)) (zi_lt zi_0 (zi_N (n := 10) (by omega))) dJx4a65c_grow_92f84_7 (by decide) (fun c1_ => ?_) (fun c1_ => absurd c1_ (by omega))
  refine z_iload_n C dJx4a65c_grow_92f84_20 rfl 0 rfl ?_
  refine z_iload_n C dJx4a65c_grow_92f84_21 rfl 2 rfl ?_
  refine z_iload_n C dJx4a65c_grow_92f84_22 rfl 0 rfl ?_
  refine z_isub C (nI 1) dJx4a65c_grow_92f84_23 (by decide) ?_
  refine z_iload_n C dJx4a65c_grow_92f84_24 rfl 0 rfl ?_
  refine z_iconst C (nI 1) dJx4a65c_grow_92f84_25 (by decide) ?_
  refine z_ishr C (nI 5) dJx4a65c_grow_92f84_26 (by decide) ?_
  refine z_callS (As := [.int (nI 10), .int (nI 1), .int (nI 5)]) (st := []) (mc := 0) (ms := 0) C (c_J8_newLength_cabcc l hlst G L F ) (va_cwS 3 C.1.2.2.2.2 gJx4a65c_grow_92f84_J8_newLength_cabcc rfl rfl rfl (by decide +kernel) ⟨Nat.le_of_ble_eq_true rfl, Nat.le_of_ble_eq_true rfl⟩) rfl (Nat.le_of_ble_eq_true rfl) ⟨Nat.le_of_ble_eq_true rfl, Nat.le_of_ble_eq_true rfl⟩ dJx4a65c_grow_92f84_27 (z_p ?_)
  refine z_stk (st' := [.int (nI 15)]) rfl ?_
  refine z_istore_n (lv' := [(3, .int (nI 15)), (2, .int (nI 10)), (0, .ref h0), (1, .int (nI 11))]) C dJx4a65c_grow_92f84_30 rfl (by decide) rfl ?_
  refine z_aload_n C dJx4a65c_grow_92f84_31 rfl 2 rfl ?_
  refine z_aload_n C dJx4a65c_grow_92f84_32 rfl 2 rfl ?_
  refine z_get (ref := "java/util/ArrayList") (v := .ref ea) C hin_Jx4a65c_grow_92f84c_Jx4a65c hL0 hF0 rfl 1 (by decide) (by decide +kernel) (fun _ h9 => h9) rfl dJx4a65c_grow_92f84_33 ?_
  refine z_iload_n C dJx4a65c_grow_92f84_36 rfl 0 rfl ?_
  refine z_callS (As := [.ref ea, .int (nI 15)]) (st := [.ref h0]) (mc := 1) (ms := 15) C (c_J7_copyOf_1904c l hlst G L F ea fe hLe hFe hel) (va_cwS 2 C.1.2.2.2.2 gJx4a65c_grow_92f84_J7_copyOf_1904c rfl rfl rfl (by decide +kernel) ⟨Nat.le_of_ble_eq_true rfl, Nat.le_of_ble_eq_true rfl⟩) rfl (Nat.le_of_ble_eq_true rfl) ⟨Nat.le_of_ble_eq_true rfl, Nat.le_of_ble_eq_true rfl⟩ dJx4a65c_grow_92f84_37 (fun rv3_ L4_ F5_ hp6_ => ?_)
  obtain ⟨q2_, e7_, e8_, hq9_, h10_, k11_⟩ := hp6_
  rw [e7_, e8_]
  have hL12_ : h0 ∈ (L ++ [q2_]) := List.mem_append_left _ hL0
  have nq13_ : h0 ≠ q2_ := fun h9 => hq9_ (h9 ▸ hL0)
  have hL14_ : ea ∈ (L ++ [q2_]) := List.mem_append_left _ hLe
  have nq15_ : ea ≠ q2_ := fun h9 => hq9_ (h9 ▸ hLe)
  have hL16_ : q2_ ∈ (L ++ [q2_]) := List.mem_append_right _ (List.mem_singleton.mpr rfl)
  have h17_ : F5_ h0 = .inr (0, [.int mo, .ref ea, .int (nI 10)]) := (k11_ h0 nq13_).trans hF0
  have h18_ : F5_ ea = .inl (G.2.2.1, 10, .inr (.inr (.inr (.inr fe)))) := (k11_ ea nq15_).trans hFe
  have kc19_ : ∀ b, b ≠ q2_ → F5_ b = F b := fun b q0 => k11_ b q0
  refine z_stk (st' := [.ref q2_, .ref h0]) rfl ?_
  refine z_dup_x1 C dJx4a65c_grow_92f84_40 rfl rfl ?_
  refine z_put (ref := "java/util/ArrayList") (v := .ref q2_) (fs' := [.int mo, .ref q2_, .int (nI 10)]) C hin_Jx4a65c_grow_92f84c_Jx4a65c tyJx4a65c tyJx4a65c_ok nmJx4a65c hL12_ h17_ rfl 1 (by decide) (by decide +kernel) (fun _ h9 => h9) rfl rfl rfl (Nat.le_of_ble_eq_true rfl) rfl dJx4a65c_grow_92f84_41 (fun F20_ h21_ k22_ => ?_)
  have h23_ : F20_ ea = .inl (G.2.2.1, 10, .inr (.inr (.inr (.inr fe)))) := (k22_ ea (zne h18_ h17_ rfl)).trans h18_
  have h24_ : F20_ q2_ = .inl (G.2.2.1, 15, .inr (.inr (.inr (.inr (va_cpy fe (fun _ => none) 0 0 10))))) := (k22_ q2_ (Ne.symm nq13_)).trans h10_
  have kc25_ : ∀ b, b ≠ h0 → b ≠ q2_ → F20_ b = F b := fun b q0 q1 => (k22_ b q0).trans (kc19_ b q1)
  refine z_aret0 C rfl (by first | exact Or.inl ⟨_, rfl⟩ | exact Or.inr ⟨_, rfl⟩) (by decide) (by decide) dJx4a65c_grow_92f84_44 ?_
  exact ⟨q2_, rfl, rfl, hq9_, h24_, h21_, fun b g1 g2 => kc25_ b g1 g2⟩

set_option maxRecDepth 100000 in
theorem hin_Jx4a65c_grow_d5877c_Jx4a65c : ∀ w ∈ u_ws RJx4a65c TJx4a65c 3, w ∈ wsJx4a65c_grow_d5877 := by decide +kernel
set_option maxHeartbeats 4000000 in
set_option maxRecDepth 100000 in
theorem c_Jx4a65c_grow_d5877c (l : Launch) (hlst : l.stackTraces = false) (G : zGt) (L : List Nat) (F : Nat → va_E) (h0 : Nat) (mo : Int32) (ea : Nat) (hL0 : h0 ∈ L) (hF0 : F h0 = .inr (0, [.int mo, .ref ea, .int (nI 10)])) (fe : Nat → Option Nat) (hLe : ea ∈ L) (hFe : F ea = .inl (G.2.2.1, 10, .inr (.inr (.inr (.inr fe))))) (hel : ∀ i, i < 10 → ∀ y, fe i = some y → y ∈ L ∧ ∃ fs, F y = .inr (1, fs)) : zM l yJx4a65c_grow_d5877 wsJx4a65c_grow_d5877 4 91 1 15 G L F [.ref h0] (fun rv L1 F1 => ∃ q : Nat, rv = some (.ref q) ∧ L1 = L ++ [q] ∧ q ∉ L ∧ F1 q = .inl (G.2.2.1, 15, .inr (.inr (.inr (.inr (va_cpy fe (fun _ => none) 0 0 10))))) ∧ F1 h0 = .inr (0, [.int mo, .ref q, .int (nI 10)]) ∧ ∀ b, b ≠ h0 → b ≠ q → F1 b = F b) := by
  refine z_of (cc := cJx4a65c_grow_d5877) (nL := 1) (ret := (some (.array (.object "java/lang/Object")))) (own := RJx4a65c) hlst (by decide +kernel) rfl rfl (Nat.le_of_ble_eq_true rfl) ?_
  intro p e s m below meth c A hnm C
  refine z_lvs (lv' := [(0, .ref h0)]) rfl ?_
  refine z_aload_n C dJx4a65c_grow_d5877_0 rfl 0 rfl ?_
  refine z_aload_n C dJx4a65c_grow_d5877_1 rfl 0 rfl ?_
  refine z_get (ref := "java/util/ArrayList") (v := .int (nI 10)) C hin_Jx4a65c_grow_d5877c_Jx4a65c hL0 hF0 rfl 2 (by decide) (by decide +kernel) (fun _ h9 => h9) rfl dJx4a65c_grow_d5877_2 ?_
  refine z_iconst C (nI 1) dJx4a65c_grow_d5877_5 (by decide) ?_
  refine z_iadd C (nI 11) dJx4a65c_grow_d5877_6 (by decide) ?_
  refine z_callV (As := [.int (nI 11)]) (st := []) (mc := 1) (ms := 15) C hL0 hF0 rfl (c_Jx4a65c_grow_92f84c l hlst G L F h0 mo ea hL0 hF0 fe hLe hFe hel) (cwV 1 C.1.2.2.2.2 gJx4a65c_grow_d5877_Jx4a65c_grow_92f84 rfl rfl rfl (by decide +kernel) ⟨Nat.le_of_ble_eq_true rfl, Nat.le_of_ble_eq_true rfl⟩) rfl (Nat.le_of_ble_eq_true rfl) ⟨Nat.le_of_ble_eq_true rfl, Nat.le_of_ble_eq_true rfl⟩ dJx4a65c_grow_d5877_7 (fun rv2_ L3_ F4_ hp5_ => ?_)
  obtain ⟨q1_, e6_, e7_, hq8_, h9_, h10_, k11_⟩ := hp5_
  rw [e6_, e7_]
  have hL12_ : h0 ∈ (L ++ [q1_]) := List.mem_append_left _ hL0
  have nq13_ : h0 ≠ q1_ := fun h9 => hq8_ (h9 ▸ hL0)
  have hL14_ : ea ∈ (L ++ [q1_]) := List.mem_append_left _ hLe
  have nq15_ : ea ≠ q1_ := fun h9 => hq8_ (h9 ▸ hLe)
  have hL16_ : q1_ ∈ (L ++ [q1_]) := List.mem_append_right _ (List.mem_singleton.mpr rfl)
  have h17_ : F4_ ea = .inl (G.2.2.1, 10, .inr (.inr (.inr (.inr fe)))) := (k11_ ea (zne hFe hF0 rfl) nq15_).trans hFe
  have kc18_ : ∀ b, b ≠ h0 → b ≠ q1_ → F4_ b = F b := fun b q0 q1 => k11_ b q0 q1
  refine z_stk (st' := [.ref q1_]) rfl ?_
  refine z_aret0 C rfl (by first | exact Or.inl ⟨_, rfl⟩ | exact Or.inr ⟨_, rfl⟩) (by decide) (by decide) dJx4a65c_grow_d5877_10 ?_
  exact ⟨q1_, rfl, rfl, hq8_, h9_, h10_, fun b g1 g2 => kc18_ b g1 g2⟩

set_option maxRecDepth 100000 in
theorem hin_Jx4a65c_add_72be8c_Jx4a65c : ∀ w ∈ u_ws RJx4a65c TJx4a65c 3, w ∈ wsJx4a65c_add_72be8 := by decide +kernel
set_option maxHeartbeats 4000000 in
set_option maxRecDepth 100000 in
theorem c_Jx4a65c_add_72be8c (l : Launch) (hlst : l.stackTraces = false) (G : zGt) (L : List Nat) (F : Nat → va_E) (h0 : Nat) (mo : Int32) (ea : Nat) (hL0 : h0 ∈ L) (hF0 : F h0 = .inr (0, [.int mo, .ref ea, .int (nI 10)])) (fe : Nat → Option Nat) (hLe : ea ∈ L) (hFe : F ea = .inl (G.2.2.1, 10, .inr (.inr (.inr (.inr fe))))) (hel : ∀ i, i < 10 → ∀ y, fe i = some y → y ∈ L ∧ ∃ fs, F y = .inr (1, fs)) (vv : Nat) (fsv : List Value) (hLv : vv ∈ L) (hFv : F vv = .inr (1, fsv)) : zM l yJx4a65c_add_72be8 wsJx4a65c_add_72be8 5 111 1 15 G L F [.ref h0, .ref vv, .ref ea, .int (nI 10)] (fun rv L1 F1 => ∃ (ea' N' : Nat) (f' : Nat → Option Nat), rv = none ∧ (L1 = L ∨ ∃ q, q ∉ L ∧ L1 = L ++ [q]) ∧ ea' ∈ L1 ∧ F1 ea' = .inl (G.2.2.1, N', .inr (.inr (.inr (.inr f')))) ∧ 10 + 1 ≤ N' ∧ (N' = 10 ∨ N' = 15) ∧ (∀ k, k < 10 → f' k = fe k) ∧ f' 10 = some vv ∧ F1 h0 = .inr (0, [.int mo, .ref ea', .int (nI (10 + 1))]) ∧ (∀ b, b ∈ L → b ≠ h0 → b ≠ ea → F1 b = F b) ∧ (ea' = ea ∨ ea' ∉ L)) := by
  refine z_of (cc := cJx4a65c_add_72be8) (nL := 4) (ret := none) (own := RJx4a65c) hlst (by decide +kernel) rfl rfl (Nat.le_of_ble_eq_true rfl) ?_
  intro p e s m below meth c A hnm C
  refine z_lvs (lv' := [(0, .ref h0), (1, .ref vv), (2, .ref ea), (3, .int (nI 10))]) rfl ?_
  refine z_iload_n C dJx4a65c_add_72be8_0 rfl 3 rfl ?_
  refine z_aload_n C dJx4a65c_add_72be8_1 rfl 2 rfl ?_
  refine z_alenq C hLe hFe dJx4a65c_add_72be8_2 ?_
  refine z_icmp_ne C 11 (((10 : Nat) : Int) = ((10 : Nat) : Int)) (zi_eq (zi_N (n := 10) (by omega)) (zi_N (n := 10) (by omega))) dJx4a65c_add_72be8_3 (by decide) (fun c1_ => absurd c1_ (by omega)) (fun c1_ => ?_)
  refine z_aload_n C dJx4a65c_add_72be8_6 rfl 0 rfl ?_
  refine z_callV (As := []) (st := []) (mc := 1) (ms := 15) C hL0 hF0 rfl (c_Jx4a65c_grow_d5877c l hlst G L F h0 mo ea hL0 hF0 fe hLe hFe hel) (cwV 0 C.1.2.2.2.2 gJx4a65c_add_72be8_Jx4a65c_grow_d5877 rfl rfl rfl (by decide +kernel) ⟨Nat.le_of_ble_eq_true rfl, Nat.le_of_ble_eq_true rfl⟩) rfl (Nat.le_of_ble_eq_true rfl) ⟨Nat.le_of_ble_eq_true rfl, Nat.le_of_ble_eq_true rfl⟩ dJx4a65c_add_72be8_7 (fun rv3_ L4_ F5_ hp6_ => ?_)
  obtain ⟨q2_, e7_, e8_, hq9_, h10_, h11_, k12_⟩ := hp6_
  rw [e7_, e8_]
  have hL13_ : h0 ∈ (L ++ [q2_]) := List.mem_append_left _ hL0
  have nq14_ : h0 ≠ q2_ := fun h9 => hq9_ (h9 ▸ hL0)
  have hL15_ : ea ∈ (L ++ [q2_]) := List.mem_append_left _ hLe
  have nq16_ : ea ≠ q2_ := fun h9 => hq9_ (h9 ▸ hLe)
  have hL17_ : vv ∈ (L ++ [q2_]) := List.mem_append_left _ hLv
  have nq18_ : vv ≠ q2_ := fun h9 => hq9_ (h9 ▸ hLv)
  have hL19_ : q2_ ∈ (L ++ [q2_]) := List.mem_append_right _ (List.mem_singleton.mpr rfl)
  have h20_ : F5_ ea = .inl (G.2.2.1, 10, .inr (.inr (.inr (.inr fe)))) := (k12_ ea (zne hFe hF0 rfl) nq16_).trans hFe
  have h21_ : F5_ vv = .inr (1, fsv) := (k12_ vv (zne hFv hF0 rfl) nq18_).trans hFv
  have kc22_ : ∀ b, b ≠ h0 → b ≠ q2_ → F5_ b = F b := fun b q0 q1 => k12_ b q0 q1
  refine z_stk (st' := [.ref q2_]) rfl ?_
  refine z_astore_n (lv' := [(2, .ref q2_), (0, .ref h0), (1, .ref vv), (3, .int (nI 10))]) C dJx4a65c_add_72be8_10 rfl (by decide) rfl ?_
  refine z_aload_n C dJx4a65c_add_72be8_11 rfl 0 rfl ?_
  refine z_iload_n C dJx4a65c_add_72be8_12 rfl 3 rfl ?_
  refine z_aload_n C dJx4a65c_add_72be8_13 rfl 2 rfl ?_
  refine z_astq C hL19_ h10_ (by omega) (by omega) hL17_ h21_ dJx4a65c_add_72be8_14 (fun F23_ h24_ k25_ => ?_)
  have h26_ : F23_ h0 = .inr (0, [.int mo, .ref q2_, .int (nI 10)]) := (k25_ h0 nq14_).trans h11_
  have h27_ : F23_ ea = .inl (G.2.2.1, 10, .inr (.inr (.inr (.inr fe)))) := (k25_ ea nq16_).trans h20_
  have h28_ : F23_ vv = .inr (1, fsv) := (k25_ vv nq18_).trans h21_
  have kc29_ : ∀ b, b ≠ h0 → b ≠ q2_ → F23_ b = F b := fun b q0 q1 => (k25_ b q1).trans (kc22_ b q0 q1)
  refine z_aload_n C dJx4a65c_add_72be8_15 rfl 1 rfl ?_
  refine z_iload_n C dJx4a65c_add_72be8_16 rfl 3 rfl ?_
  refine z_iconst C (nI 1) dJx4a65c_add_72be8_17 (by decide) ?_
  refine z_iadd C (nI (10 + 1)) dJx4a65c_add_72be8_18 (nI_add 10 1) ?_
  refine z_put (ref := "java/util/ArrayList") (v := .int (nI (10 + 1))) (fs' := [.int mo, .ref q2_, .int (nI (10 + 1))]) C hin_Jx4a65c_add_72be8c_Jx4a65c tyJx4a65c tyJx4a65c_ok nmJx4a65c hL13_ h26_ rfl 2 (by decide) (by decide +kernel) (fun _ h9 => h9) rfl rfl rfl (Nat.le_of_ble_eq_true rfl) rfl dJx4a65c_add_72be8_19 (fun F30_ h31_ k32_ => ?_)
  have h33_ : F30_ ea = .inl (G.2.2.1, 10, .inr (.inr (.inr (.inr fe)))) := (k32_ ea (zne h27_ h26_ rfl)).trans h27_
  have h34_ : F30_ vv = .inr (1, fsv) := (k32_ vv (zne h28_ h26_ rfl)).trans h28_
  have h35_ : F30_ q2_ = .inl (G.2.2.1, 15, .inr (.inr (.inr (.inr (va_up ((va_cpy fe (fun _ => none) 0 0 10)) 10 (some vv)))))) := (k32_ q2_ (Ne.symm nq14_)).trans h24_
  have kc36_ : ∀ b, b ≠ h0 → b ≠ q2_ → F30_ b = F b := fun b q0 q1 => (k32_ b q0).trans (kc29_ b q0 q1)
  refine z_vret0 C rfl (by decide) (by decide) dJx4a65c_add_72be8_22 ?_
  exact ⟨q2_, 15, _, rfl, Or.inr ⟨q2_, hq9_, rfl⟩, hL19_, h35_, by omega, Or.inr rfl, fun k hk => by rw [va_up_ne _ _ (by omega), pk_cpy_in (by omega) (by omega)]; congr 1; omega, va_up_self _ _ _, h31_, fun b hb g1 g2 => kc36_ b g1 (fun e => hq9_ (e ▸ hb)), Or.inr hq9_⟩

set_option maxRecDepth 100000 in
theorem hin_Jx4a65c_add_72be8b_Jx4a65c : ∀ w ∈ u_ws RJx4a65c TJx4a65c 3, w ∈ wsJx4a65c_add_72be8 := by decide +kernel
set_option maxHeartbeats 4000000 in
set_option maxRecDepth 100000 in
theorem c_Jx4a65c_add_72be8b (l : Launch) (hlst : l.stackTraces = false) (G : zGt) (L : List Nat) (F : Nat → va_E) (h0 : Nat) (mo : Int32) (ea n : Nat) (hL0 : h0 ∈ L) (hF0 : F h0 = .inr (0, [.int mo, .ref ea, .int (nI n)])) (nn : Nat) (fe : Nat → Option Nat) (hLe : ea ∈ L) (hFe : F ea = .inl (G.2.2.1, nn, .inr (.inr (.inr (.inr fe))))) (hnn : n < nn) (hcap : nn = 10 ∨ nn = 15) (vv : Nat) (fsv : List Value) (hLv : vv ∈ L) (hFv : F vv = .inr (1, fsv)) : zM l yJx4a65c_add_72be8 wsJx4a65c_add_72be8 5 111 1 15 G L F [.ref h0, .ref vv, .ref ea, .int (nI n)] (fun rv L1 F1 => ∃ (ea' N' : Nat) (f' : Nat → Option Nat), rv = none ∧ (L1 = L ∨ ∃ q, q ∉ L ∧ L1 = L ++ [q]) ∧ ea' ∈ L1 ∧ F1 ea' = .inl (G.2.2.1, N', .inr (.inr (.inr (.inr f')))) ∧ n + 1 ≤ N' ∧ (N' = 10 ∨ N' = 15) ∧ (∀ k, k < n → f' k = fe k) ∧ f' n = some vv ∧ F1 h0 = .inr (0, [.int mo, .ref ea', .int (nI (n + 1))]) ∧ (∀ b, b ∈ L → b ≠ h0 → b ≠ ea → F1 b = F b) ∧ (ea' = ea ∨ ea' ∉ L)) := by
  refine z_of (cc := cJx4a65c_add_72be8) (nL := 4) (ret := none) (own := RJx4a65c) hlst (by decide +kernel) rfl rfl (Nat.le_of_ble_eq_true rfl) ?_
  intro p e s m below meth c A hnm C
  refine z_lvs (lv' := [(0, .ref h0), (1, .ref vv), (2, .ref ea), (3, .int (nI n))]) rfl ?_
  refine z_iload_n C dJx4a65c_add_72be8_0 rfl 3 rfl ?_
  refine z_aload_n C dJx4a65c_add_72be8_1 rfl 2 rfl ?_
  refine z_alenq C hLe hFe dJx4a65c_add_72be8_2 ?_
  refine z_icmp_ne C 11 (((n : Nat) : Int) = ((nn : Nat) : Int)) (zi_eq (zi_N (n := n) (by omega)) (zi_N (n := nn) (by omega))) dJx4a65c_add_72be8_3 (by decide) (fun c1_ => ?_) (fun c1_ => absurd c1_ (by omega))
  refine z_aload_n C dJx4a65c_add_72be8_11 rfl 2 rfl ?_
  refine z_iload_n C dJx4a65c_add_72be8_12 rfl 3 rfl ?_
  refine z_aload_n C dJx4a65c_add_72be8_13 rfl 1 rfl ?_
  refine z_astq C hLe hFe (by omega) (by omega) hLv hFv dJx4a65c_add_72be8_14 (fun F2_ h3_ k4_ => ?_)
  have h5_ : F2_ h0 = .inr (0, [.int mo, .ref ea, .int (nI n)]) := (k4_ h0 (zne hF0 hFe rfl)).trans hF0
  have h6_ : F2_ vv = .inr (1, fsv) := (k4_ vv (zne hFv hFe rfl)).trans hFv
  have kc7_ : ∀ b, b ≠ ea → F2_ b = F b := fun b q0 => k4_ b q0
  refine z_aload_n C dJx4a65c_add_72be8_15 rfl 0 rfl ?_
  refine z_iload_n C dJx4a65c_add_72be8_16 rfl 3 rfl ?_
  refine z_iconst C (nI 1) dJx4a65c_add_72be8_17 (by decide) ?_
  refine z_iadd C (nI (n + 1)) dJx4a65c_add_72be8_18 (nI_add n 1) ?_
  refine z_put (ref := "java/util/ArrayList") (v := .int (nI (n + 1))) (fs' := [.int mo, .ref ea, .int (nI (n + 1))]) C hin_Jx4a65c_add_72be8b_Jx4a65c tyJx4a65c tyJx4a65c_ok nmJx4a65c hL0 h5_ rfl 2 (by decide) (by decide +kernel) (fun _ h9 => h9) rfl rfl rfl (Nat.le_of_ble_eq_true rfl) rfl dJx4a65c_add_72be8_19 (fun F8_ h9_ k10_ => ?_)
  have h11_ : F8_ ea = .inl (G.2.2.1, nn, .inr (.inr (.inr (.inr (va_up fe n (some vv)))))) := (k10_ ea (zne h3_ h5_ rfl)).trans h3_
  have h12_ : F8_ vv = .inr (1, fsv) := (k10_ vv (zne h6_ h5_ rfl)).trans h6_
  have kc13_ : ∀ b, b ≠ ea → b ≠ h0 → F8_ b = F b := fun b q0 q1 => (k10_ b q1).trans (kc7_ b q0)
  refine z_vret0 C rfl (by decide) (by decide) dJx4a65c_add_72be8_22 ?_
  exact ⟨ea, nn, _, rfl, Or.inl rfl, hLe, h11_, by omega, hcap, fun k hk => va_up_ne _ _ (by omega), va_up_self _ _ _, h9_, fun b hb g1 g2 => kc13_ b g2 g1, Or.inl rfl⟩

theorem c_Jx4a65c_add_72be8 (l : Launch) (hlst : l.stackTraces = false) (G : zGt) (L : List Nat) (F : Nat → va_E) (h0 : Nat) (mo : Int32) (ea n : Nat) (hL0 : h0 ∈ L) (hF0 : F h0 = .inr (0, [.int mo, .ref ea, .int (nI n)])) (nn : Nat) (fe : Nat → Option Nat) (hn : n < 12) (hok : ((n = 0 ∧ ea = G.2.2.2.2.1) ∨ (ea ∈ L ∧ F ea = .inl (G.2.2.1, nn, .inr (.inr (.inr (.inr fe)))) ∧ n ≤ nn ∧ (nn = 10 ∨ nn = 15)))) (hel : (∀ i, i < n → ∀ y, fe i = some y → y ∈ L ∧ ∃ fs, F y = .inr (1, fs))) (vv : Nat) (fsv : List Value) (hLv : vv ∈ L) (hFv : F vv = .inr (1, fsv)) : zM l yJx4a65c_add_72be8 wsJx4a65c_add_72be8 5 111 1 15 G L F [.ref h0, .ref vv, .ref ea, .int (nI n)] (fun rv L1 F1 => ∃ (ea' N' : Nat) (f' : Nat → Option Nat), rv = none ∧ (L1 = L ∨ ∃ q, q ∉ L ∧ L1 = L ++ [q]) ∧ ea' ∈ L1 ∧ F1 ea' = .inl (G.2.2.1, N', .inr (.inr (.inr (.inr f')))) ∧ n + 1 ≤ N' ∧ (N' = 10 ∨ N' = 15) ∧ (∀ k, k < n → f' k = fe k) ∧ f' n = some vv ∧ F1 h0 = .inr (0, [.int mo, .ref ea', .int (nI (n + 1))]) ∧ (∀ b, b ∈ L → b ≠ h0 → b ≠ ea → F1 b = F b) ∧ (ea' = ea ∨ ea' ∉ L)) := by
  rcases hok with ⟨rfl, rfl⟩ | ⟨hLe, hFe, h1, h2⟩
  · exact c_Jx4a65c_add_72be8a l hlst G L F h0 mo hL0 hF0 vv fsv hLv hFv fe
  · rcases Nat.lt_or_ge n nn with h3 | h3
    · exact c_Jx4a65c_add_72be8b l hlst G L F h0 mo ea n hL0 hF0 nn fe hLe hFe h3 h2 vv fsv hLv hFv
    · obtain rfl : n = 10 := by omega
      obtain rfl : nn = 10 := by omega
      exact c_Jx4a65c_add_72be8c l hlst G L F h0 mo ea hL0 hF0 fe hLe hFe hel vv fsv hLv hFv

set_option maxRecDepth 100000 in
theorem hin_Jx4a65c_add_9ea2d_Jx4a65c : ∀ w ∈ u_ws RJx4a65c TJx4a65c 3, w ∈ wsJx4a65c_add_9ea2d := by decide +kernel
set_option maxHeartbeats 4000000 in
set_option maxRecDepth 100000 in
theorem c_Jx4a65c_add_9ea2d (l : Launch) (hlst : l.stackTraces = false) (G : zGt) (L : List Nat) (F : Nat → va_E) (h0 : Nat) (mo : Int32) (ea n : Nat) (hL0 : h0 ∈ L) (hF0 : F h0 = .inr (0, [.int mo, .ref ea, .int (nI n)])) (nn : Nat) (fe : Nat → Option Nat) (hn : n < 12) (hok : ((n = 0 ∧ ea = G.2.2.2.2.1) ∨ (ea ∈ L ∧ F ea = .inl (G.2.2.1, nn, .inr (.inr (.inr (.inr fe)))) ∧ n ≤ nn ∧ (nn = 10 ∨ nn = 15)))) (hel : (∀ i, i < n → ∀ y, fe i = some y → y ∈ L ∧ ∃ fs, F y = .inr (1, fs))) (vv : Nat) (fsv : List Value) (hLv : vv ∈ L) (hFv : F vv = .inr (1, fsv)) : zM l yJx4a65c_add_9ea2d wsJx4a65c_add_9ea2d 6 134 1 15 G L F [.ref h0, .ref vv] (fun rv L1 F1 => ∃ (ea' N' : Nat) (f' : Nat → Option Nat), rv = some (.int (nI 1)) ∧ (L1 = L ∨ ∃ q, q ∉ L ∧ L1 = L ++ [q]) ∧ ea' ∈ L1 ∧ F1 ea' = .inl (G.2.2.1, N', .inr (.inr (.inr (.inr f')))) ∧ n + 1 ≤ N' ∧ (N' = 10 ∨ N' = 15) ∧ (∀ k, k < n → f' k = fe k) ∧ f' n = some vv ∧ F1 h0 = .inr (0, [.int (mo + nI 1), .ref ea', .int (nI (n + 1))]) ∧ (∀ b, b ∈ L → b ≠ h0 → b ≠ ea → F1 b = F b) ∧ (ea' = ea ∨ ea' ∉ L)) := by
  refine z_of (cc := cJx4a65c_add_9ea2d) (nL := 2) (ret := (some .boolean)) (own := RJx4a65c) hlst (by decide +kernel) rfl rfl (Nat.le_of_ble_eq_true rfl) ?_
  intro p e s m below meth c A hnm C
  refine z_lvs (lv' := [(0, .ref h0), (1, .ref vv)]) rfl ?_
  refine z_aload_n C dJx4a65c_add_9ea2d_0 rfl 0 rfl ?_
  refine z_dup C dJx4a65c_add_9ea2d_1 rfl ?_
  refine z_get (ref := "java/util/ArrayList") (v := .int mo) C hin_Jx4a65c_add_9ea2d_Jx4a65c hL0 hF0 rfl 0 (by decide) (by decide +kernel) (fun x9 h9 => u_same (C.1.2.2.2.2 (.sameField "java/util/ArrayList" "java/util/AbstractList" "modCount" "I") (by decide +kernel)) x9 h9) rfl dJx4a65c_add_9ea2d_2 ?_
  refine z_iconst C (nI 1) dJx4a65c_add_9ea2d_5 (by decide) ?_
  refine z_iadd C ((mo + nI 1)) dJx4a65c_add_9ea2d_6 (rfl) ?_
  refine z_put (ref := "java/util/ArrayList") (v := .int ((mo + nI 1))) (fs' := [.int ((mo + nI 1)), .ref ea, .int (nI n)]) C hin_Jx4a65c_add_9ea2d_Jx4a65c tyJx4a65c tyJx4a65c_ok nmJx4a65c hL0 hF0 rfl 0 (by decide) (by decide +kernel) (fun x9 h9 => u_same (C.1.2.2.2.2 (.sameField "java/util/ArrayList" "java/util/AbstractList" "modCount" "I") (by decide +kernel)) x9 h9) rfl rfl rfl (Nat.le_of_ble_eq_true rfl) rfl dJx4a65c_add_9ea2d_7 (fun F1_ h2_ k3_ => ?_)
  have h4_ : F1_ vv = .inr (1, fsv) := (k3_ vv (zne hFv hF0 rfl)).trans hFv
  have kc5_ : ∀ b, b ≠ h0 → F1_ b = F b := fun b q0 => k3_ b q0
  refine z_aload_n C dJx4a65c_add_9ea2d_10 rfl 0 rfl ?_
  refine z_aload_n C dJx4a65c_add_9ea2d_11 rfl 1 rfl ?_
  refine z_aload_n C dJx4a65c_add_9ea2d_12 rfl 0 rfl ?_
  refine z_get (ref := "java/util/ArrayList") (v := .ref ea) C hin_Jx4a65c_add_9ea2d_Jx4a65c hL0 h2_ rfl 1 (by decide) (by decide +kernel) (fun _ h9 => h9) rfl dJx4a65c_add_9ea2d_13 ?_
  refine z_aload_n C dJx4a65c_add_9ea2d_16 rfl 0 rfl ?_
  refine z_get (ref := "java/util/ArrayList") (v := .int (nI n)) C hin_Jx4a65c_add_9ea2d_Jx4a65c hL0 h2_ rfl 2 (by decide) (by decide +kernel) (fun _ h9 => h9) rfl dJx4a65c_add_9ea2d_17 ?_
  have hok' : ((n = 0 ∧ ea = G.2.2.2.2.1) ∨ (ea ∈ L ∧ F1_ ea = .inl (G.2.2.1, nn, .inr (.inr (.inr (.inr fe)))) ∧ n ≤ nn ∧ (nn = 10 ∨ nn = 15))) := by
    rcases hok with h | ⟨g1, g2, g3⟩
    · exact Or.inl h
    · exact Or.inr ⟨g1, (kc5_ ea (zne g2 hF0 rfl)).trans g2, g3⟩
  have hel' : ∀ i, i < n → ∀ y, fe i = some y → y ∈ L ∧ ∃ fs, F1_ y = .inr (1, fs) := fun i hi y hy => by
    obtain ⟨g1, fs, g2⟩ := hel i hi y hy
    exact ⟨g1, fs, (kc5_ y (zne g2 hF0 rfl)).trans g2⟩
  refine z_callV (As := [.ref vv, .ref ea, .int (nI n)]) (st := []) (mc := 1) (ms := 15) C hL0 h2_ rfl (c_Jx4a65c_add_72be8 l hlst G L F1_ h0 ((mo + nI 1)) ea n hL0 h2_ nn fe hn hok' hel' vv fsv hLv h4_) (cwV 3 C.1.2.2.2.2 gJx4a65c_add_9ea2d_Jx4a65c_add_72be8 rfl rfl rfl (by decide +kernel) ⟨Nat.le_of_ble_eq_true rfl, Nat.le_of_ble_eq_true rfl⟩) rfl (Nat.le_of_ble_eq_true rfl) ⟨Nat.le_of_ble_eq_true rfl, Nat.le_of_ble_eq_true rfl⟩ dJx4a65c_add_9ea2d_20 (fun rv9 L9 F9 hp9 => ?_)
  obtain ⟨ea9, nn9, f9, e91, hl9, hm9, hf9, hz9, hc9, ho9, hv9, h09, k9, hx9⟩ := hp9
  rw [e91]
  refine z_stk (st' := []) rfl ?_
  refine z_iconst C (nI 1) dJx4a65c_add_9ea2d_23 (by decide) ?_
  refine z_iret0 C rfl rfl (by decide) (by decide) dJx4a65c_add_9ea2d_24 ?_
  exact ⟨ea9, nn9, f9, rfl, hl9, hm9, hf9, hz9, hc9, ho9, hv9, h09, fun b hb g1 g2 => (k9 b hb g1 g2).trans (kc5_ b g1), hx9⟩
end
section
-- a feeder: stage, load, critical, off, hours, hours of this cut, cold part
abbrev FdT : Type := Nat × Nat × Nat × Nat × Nat × Nat × Nat
abbrev fSg (r : FdT) : Nat := r.1
abbrev fMw (r : FdT) : Nat := r.2.1
abbrev fCr (r : FdT) : Nat := r.2.2.1
abbrev fOf (r : FdT) : Nat := r.2.2.2.1
abbrev fHo (r : FdT) : Nat := r.2.2.2.2.1
abbrev fTh (r : FdT) : Nat := r.2.2.2.2.2.1
abbrev fCo (r : FdT) : Nat := r.2.2.2.2.2.2
abbrev fdE (r : FdT) : va_E := .inr (1, [.int (nI (fSg r)), .int (nI (fMw r)), .int (nI (fCr r)), .int (nI (fOf r)), .int (nI (fHo r)), .int (nI (fTh r)), .int (nI (fCo r))])
def fOk (now : Nat) (r : FdT) : Prop := fSg r ≤ 3 ∧ 1 ≤ fMw r ∧ fMw r ≤ 999 ∧ fCr r ≤ 1 ∧ fOf r ≤ 1 ∧ fHo r ≤ now ∧ fTh r ≤ now ∧ fCo r ≤ 100
def fTk (r : FdT) : Nat := tkV (fMw r) (fOf r) (fCo r)
def fRs (r : FdT) : Nat := rsV (fMw r) (fOf r) (fTh r) (fCo r)
def fOff (r : FdT) : FdT := (fSg r, fMw r, fCr r, 1, fHo r, 0, 0)
def fOn (r : FdT) : FdT := (fSg r, fMw r, fCr r, 0, fHo r, fTh r, crV (fTh r))
def fPs (ps : Nat) (r : FdT) : FdT := (fSg r, fMw r, fCr r, fOf r, if fOf r = 0 then fHo r else fHo r + ps, if fOf r = 0 then fTh r else fTh r + ps, if fOf r = 0 then fCo r - 20 * ps else fCo r)
theorem fTk_le {now : Nat} {r : FdT} (h : fOk now r) : fTk r ≤ 1998 := by
  obtain ⟨h1, h2, h3, h4, h5, h6, h7, h8⟩ := h
  unfold fTk tkV
  split
  · have : fMw r * (100 + fCo r) ≤ 999 * 200 := Nat.mul_le_mul h3 (by omega)
    omega
  · omega
theorem fRs_le {now : Nat} {r : FdT} (h : fOk now r) : fRs r ≤ 1998 := by
  obtain ⟨h1, h2, h3, h4, h5, h6, h7, h8⟩ := h
  have hc := crV_le (fTh r)
  unfold fRs rsV
  split
  · have : fMw r * (100 + fCo r) ≤ 999 * 200 := Nat.mul_le_mul h3 (by omega)
    omega
  · have : fMw r * (100 + crV (fTh r)) ≤ 999 * 200 := Nat.mul_le_mul h3 (by omega)
    omega
theorem fTk_pos {now : Nat} {r : FdT} (h : fOk now r) (h0 : fOf r = 0) : 1 ≤ fTk r := by
  obtain ⟨h1, h2, h3, h4, h5, h6, h7, h8⟩ := h
  unfold fTk tkV
  rw [if_pos h0]
  have : 1 * 100 ≤ fMw r * (100 + fCo r) := Nat.mul_le_mul h2 (by omega)
  omega
theorem fOff_ok {now : Nat} {r : FdT} (h : fOk now r) : fOk now (fOff r) := by
  obtain ⟨h1, h2, h3, h4, h5, h6, h7, h8⟩ := h
  exact ⟨h1, h2, h3, h4, Nat.le_refl _, h6, Nat.zero_le _, Nat.zero_le _⟩
theorem fOn_ok {now : Nat} {r : FdT} (h : fOk now r) : fOk now (fOn r) := by
  obtain ⟨h1, h2, h3, h4, h5, h6, h7, h8⟩ := h
  exact ⟨h1, h2, h3, h4, Nat.zero_le _, h6, h7, crV_le _⟩
theorem fPs_ok {now ps : Nat} {r : FdT} (h : fOk now r) : fOk (now + ps) (fPs ps r) := by
  obtain ⟨h1, h2, h3, h4, h5, h6, h7, h8⟩ := h
  refine ⟨h1, h2, h3, h4, h5, ?_, ?_, ?_⟩
  · show (if fOf r = 0 then fHo r else fHo r + ps) ≤ now + ps
    split <;> omega
  · show (if fOf r = 0 then fTh r else fTh r + ps) ≤ now + ps
    split <;> omega
  · show (if fOf r = 0 then fCo r - 20 * ps else fCo r) ≤ 100
    split <;> omega
-- the office's cells
def zAr (G : zGt) (M : Nat → Prop) (L : List Nat) (F : Nat → va_E) (a1 : Nat) (ad : Nat → Nat) (n : Nat) : Prop := ∃ (mo : Int32) (ea nn : Nat) (fe : Nat → Option Nat), F a1 = .inr (0, [.int mo, .ref ea, .int (nI n)]) ∧ ((n = 0 ∧ ea = G.2.2.2.2.1) ∨ (ea ∈ L ∧ F ea = .inl (G.2.2.1, nn, .inr (.inr (.inr (.inr fe)))) ∧ n ≤ nn ∧ (nn = 10 ∨ nn = 15))) ∧ (∀ k, k < n → fe k = some (ad k)) ∧ (ea ∈ L → ¬ M ea)
def zSr (G : zGt) (F : Nat → va_E) (a2 b4 b5 b6 b7 : Nat) : Prop := ∃ (f4 f5 f6 f7 : Nat → Int32) (cnt sf nl bs bt bh : Nat), F a2 = .inr (2, [.ref b4, .ref b5, .ref b6, .ref b7, .int (nI cnt), .int (nI sf), .int (nI nl), .int (nI bs), .int (nI bt), .int (nI bh)]) ∧ (F b4 = .inl (G.2.1, 12, .inl f4) ∧ F b5 = .inl (G.2.1, 12, .inl f5) ∧ F b6 = .inl (G.2.1, 12, .inl f6) ∧ F b7 = .inl (G.2.1, 13, .inl f7)) ∧ f7 0 = nI 0 ∧ bt < 1048576 ∧ bh < 1048576
def zNb (b4 b5 b6 b7 : Nat) : Prop := b4 ≠ b5 ∧ b4 ≠ b6 ∧ b4 ≠ b7 ∧ b5 ≠ b6 ∧ b5 ≠ b7 ∧ b6 ≠ b7
def zFs (M : Nat → Prop) (L : List Nat) (F : Nat → va_E) (ad : Nat → Nat) (n now : Nat) (fd : Nat → FdT) : Prop := ∀ k, k < n → ad k ∈ L ∧ F (ad k) = fdE (fd k) ∧ fOk now (fd k) ∧ ¬ M (ad k)
def zIj (ad : Nat → Nat) (n : Nat) : Prop := ∀ i j, i < n → j < n → ad i = ad j → i = j
def zCo (G : zGt) (M : Nat → Prop) (L : List Nat) (F : Nat → va_E) (a0 a1 a2 b4 b5 b6 b7 : Nat) (ad : Nat → Nat) (n now sl : Nat) (fd : Nat → FdT) : Prop :=
  (a0 ∈ L ∧ a1 ∈ L ∧ a2 ∈ L ∧ b4 ∈ L ∧ b5 ∈ L ∧ b6 ∈ L ∧ b7 ∈ L) ∧ F a0 = .inr (3, [.ref a1, .ref a2, .int (nI now), .int (nI sl)]) ∧ zAr G M L F a1 ad n ∧ zSr G F a2 b4 b5 b6 b7 ∧ zNb b4 b5 b6 b7 ∧ zFs M L F ad n now fd ∧ zIj ad n ∧ (n ≤ 12 ∧ now ≤ 60000 ∧ sl ≤ 999) ∧ (¬ M a0 ∧ ¬ M a1 ∧ ¬ M a2 ∧ ¬ M b4 ∧ ¬ M b5 ∧ ¬ M b6 ∧ ¬ M b7)
def zCl (G : zGt) (M : Nat → Prop) (L : List Nat) (F : Nat → va_E) (a0 n now sl : Nat) (fd : Nat → FdT) : Prop := ∃ (a1 a2 b4 b5 b6 b7 : Nat) (ad : Nat → Nat), zCo G M L F a0 a1 a2 b4 b5 b6 b7 ad n now sl fd
theorem zAr.kept {G : zGt} {M : Nat → Prop} {L : List Nat} {F F1 : Nat → va_E} {a1 : Nat} {ad : Nat → Nat} {n : Nat} (h : zAr G M L F a1 ad n) (k1 : F1 a1 = F a1) (k2 : ∀ a, zk (F a) = 102 → F1 a = F a) : zAr G M L F1 a1 ad n := by
  obtain ⟨mo, ea, nn, fe, h1, h2, h3, h4⟩ := h
  refine ⟨mo, ea, nn, fe, k1.trans h1, ?_, h3, h4⟩
  rcases h2 with h2 | ⟨g1, g2, g3⟩
  · exact Or.inl h2
  · exact Or.inr ⟨g1, (k2 ea (by rw [g2]; rfl)).trans g2, g3⟩
theorem zSr.kept {G : zGt} {F F1 : Nat → va_E} {a2 b4 b5 b6 b7 : Nat} (h : zSr G F a2 b4 b5 b6 b7) (k1 : ∀ a, (zk (F a) = 2 ∨ zk (F a) = 100) → F1 a = F a) : zSr G F1 a2 b4 b5 b6 b7 := by
  obtain ⟨f4, f5, f6, f7, cnt, sf, nl, bs, bt, bh, h1, ⟨g4, g5, g6, g7⟩, h2⟩ := h
  exact ⟨f4, f5, f6, f7, cnt, sf, nl, bs, bt, bh, (k1 _ (by rw [h1]; exact Or.inl rfl)).trans h1, ⟨(k1 _ (by rw [g4]; exact Or.inr rfl)).trans g4, (k1 _ (by rw [g5]; exact Or.inr rfl)).trans g5, (k1 _ (by rw [g6]; exact Or.inr rfl)).trans g6, (k1 _ (by rw [g7]; exact Or.inr rfl)).trans g7⟩, h2⟩
/-- feeders alone have changed -/
theorem zCo.feed {G : zGt} {M : Nat → Prop} {L : List Nat} {F F1 : Nat → va_E} {a0 a1 a2 b4 b5 b6 b7 : Nat} {ad : Nat → Nat} {n now sl : Nat} {fd fd1 : Nat → FdT} (h : zCo G M L F a0 a1 a2 b4 b5 b6 b7 ad n now sl fd) (hk : ∀ b, (∀ j, j < n → b ≠ ad j) → F1 b = F b) (hf : ∀ j, j < n → F1 (ad j) = fdE (fd1 j) ∧ fOk now (fd1 j)) : zCo G M L F1 a0 a1 a2 b4 b5 b6 b7 ad n now sl fd1 := by
  obtain ⟨h1, h2, h3, h4, h5, h6, h7, h8, h9⟩ := h
  have key : ∀ a, zk (F a) ≠ 1 → F1 a = F a := fun a ha => hk a (fun j hj e => ha (by rw [e, (h6 j hj).2.1]; rfl))
  refine ⟨h1, (key a0 (by rw [h2]; exact Nat.ne_of_beq_eq_false rfl)).trans h2, ?_, ?_, h5, ?_, h7, h8, h9⟩
  · refine h3.kept (key a1 ?_) (fun a ha => key a (by rw [ha]; decide))
    obtain ⟨mo, ea, nn, fe, g1, -⟩ := h3
    rw [g1]; exact Nat.ne_of_beq_eq_false rfl
  · exact h4.kept (fun a ha => key a (by rcases ha with ha | ha <;> rw [ha] <;> decide))
  · exact fun k hk => ⟨(h6 k hk).1, (hf k hk).1, (hf k hk).2, (h6 k hk).2.2.2⟩
/-- the office's own numbers alone have changed -/
theorem zCo.own {G : zGt} {M : Nat → Prop} {L : List Nat} {F F1 : Nat → va_E} {a0 a1 a2 b4 b5 b6 b7 : Nat} {ad : Nat → Nat} {n now sl now1 sl1 : Nat} {fd : Nat → FdT} (h : zCo G M L F a0 a1 a2 b4 b5 b6 b7 ad n now sl fd) (hk : ∀ b, b ≠ a0 → F1 b = F b) (h0 : F1 a0 = .inr (3, [.ref a1, .ref a2, .int (nI now1), .int (nI sl1)])) (hn : now ≤ now1 ∧ now1 ≤ 60000 ∧ sl1 ≤ 999) : zCo G M L F1 a0 a1 a2 b4 b5 b6 b7 ad n now1 sl1 fd := by
  obtain ⟨h1, h2, h3, h4, h5, h6, h7, h8, h9⟩ := h
  have key : ∀ a, zk (F a) ≠ 3 → F1 a = F a := fun a ha => hk a (fun e => ha (by rw [e, h2]; rfl))
  refine ⟨h1, h0, ?_, ?_, h5, ?_, h7, ⟨h8.1, hn.2.1, hn.2.2⟩, h9⟩
  · refine h3.kept (key a1 ?_) (fun a ha => key a (by rw [ha]; decide))
    obtain ⟨mo, ea, nn, fe, g1, -⟩ := h3
    rw [g1]; exact Nat.ne_of_beq_eq_false rfl
  · exact h4.kept (fun a ha => key a (by rcases ha with ha | ha <;> rw [ha] <;> decide))
  · intro k hk
    obtain ⟨g1, g2, ⟨q1, q2, q3, q4, q5, q6, q7, q8⟩, g4⟩ := h6 k hk
    exact ⟨g1, (key _ (by rw [g2]; exact Nat.ne_of_beq_eq_false rfl)).trans g2, ⟨q1, q2, q3, q4, q5, by omega, by omega, q8⟩, g4⟩
/-- the search alone has changed -/
theorem zCo.srch {G : zGt} {M : Nat → Prop} {L : List Nat} {F F1 : Nat → va_E} {a0 a1 a2 b4 b5 b6 b7 : Nat} {ad : Nat → Nat} {n now sl : Nat} {fd : Nat → FdT} (h : zCo G M L F a0 a1 a2 b4 b5 b6 b7 ad n now sl fd) (hk : ∀ b, b ≠ a2 → b ≠ b4 → b ≠ b5 → b ≠ b6 → b ≠ b7 → F1 b = F b) (hs : zSr G F1 a2 b4 b5 b6 b7) : zCo G M L F1 a0 a1 a2 b4 b5 b6 b7 ad n now sl fd := by
  obtain ⟨h1, h2, h3, h4, h5, h6, h7, h8, h9⟩ := h
  have key : ∀ a, zk (F a) ≠ 2 → zk (F a) ≠ 100 → F1 a = F a := fun a ha ha2 => by
    obtain ⟨f4, f5, f6, f7, cnt, sf, nl, bs, bt, bh, g1, ⟨g4, g5, g6, g7⟩, -⟩ := h4
    exact hk a (fun e => ha (by rw [e, g1]; rfl)) (fun e => ha2 (by rw [e, g4]; rfl)) (fun e => ha2 (by rw [e, g5]; rfl)) (fun e => ha2 (by rw [e, g6]; rfl)) (fun e => ha2 (by rw [e, g7]; rfl))
  refine ⟨h1, (key a0 (by rw [h2]; exact Nat.ne_of_beq_eq_false rfl) (by rw [h2]; exact Nat.ne_of_beq_eq_false rfl)).trans h2, ?_, hs, h5, ?_, h7, h8, h9⟩
  · refine h3.kept (key a1 ?_ ?_) (fun a ha => key a (by rw [ha]; decide) (by rw [ha]; decide))
    · obtain ⟨mo, ea, nn, fe, g1, -⟩ := h3
      rw [g1]; exact Nat.ne_of_beq_eq_false rfl
    · obtain ⟨mo, ea, nn, fe, g1, -⟩ := h3
      rw [g1]; exact Nat.ne_of_beq_eq_false rfl
  · intro k hk
    obtain ⟨g1, g2, g3, g4⟩ := h6 k hk
    exact ⟨g1, (key _ (by rw [g2]; exact Nat.ne_of_beq_eq_false rfl) (by rw [g2]; exact Nat.ne_of_beq_eq_false rfl)).trans g2, g3, g4⟩
theorem zCo.apart {G : zGt} {M : Nat → Prop} {L : List Nat} {F : Nat → va_E} {a0 a1 a2 b4 b5 b6 b7 : Nat} {ad : Nat → Nat} {n now sl : Nat} {fd : Nat → FdT} (h : zCo G M L F a0 a1 a2 b4 b5 b6 b7 ad n now sl fd) {b : Nat} (hb : M b) : ∀ j, j < n → b ≠ ad j := fun j hj e => (h.2.2.2.2.2.1 j hj).2.2.2 (e ▸ hb)
def upF (fd : Nat → FdT) (k : Nat) (r : FdT) : Nat → FdT := fun j => if j = k then r else fd j
theorem zCo.one {G : zGt} {M : Nat → Prop} {L : List Nat} {F F1 : Nat → va_E} {a0 a1 a2 b4 b5 b6 b7 : Nat} {ad : Nat → Nat} {n now sl : Nat} {fd : Nat → FdT} (h : zCo G M L F a0 a1 a2 b4 b5 b6 b7 ad n now sl fd) {k : Nat} (hkn : k < n) {r : FdT} (hr : fOk now r) (h1 : F1 (ad k) = fdE r) (hk : ∀ b, b ≠ ad k → F1 b = F b) : zCo G M L F1 a0 a1 a2 b4 b5 b6 b7 ad n now sl (upF fd k r) := by
  have h6 := h.2.2.2.2.2.1
  have h7 := h.2.2.2.2.2.2.1
  refine h.feed (fun b hb => hk b (hb k hkn)) (fun j hj => ?_)
  unfold upF
  by_cases e : j = k
  · subst e
    rw [if_pos rfl]; exact ⟨h1, hr⟩
  · rw [if_neg e]
    exact ⟨(hk _ (fun q => e (h7 j k hj hkn q))).trans (h6 j hj).2.1, (h6 j hj).2.2.1⟩
def fdK (g : Nat → FdT → FdT) (fd : Nat → FdT) (k : Nat) : Nat → FdT := fun j => if j < k then g j (fd j) else fd j
theorem fdK_0 (g : Nat → FdT → FdT) (fd : Nat → FdT) : fdK g fd 0 = fd := by
  funext j; unfold fdK; rw [if_neg (Nat.not_lt_zero j)]
theorem fdK_at (g : Nat → FdT → FdT) (fd : Nat → FdT) (k : Nat) : fdK g fd k k = fd k := by
  unfold fdK; rw [if_neg (Nat.lt_irrefl k)]
theorem fdK_s (g : Nat → FdT → FdT) (fd : Nat → FdT) (k : Nat) {r : FdT} (h : g k (fd k) = r) : upF (fdK g fd k) k r = fdK g fd (k + 1) := by
  funext j; unfold upF fdK
  by_cases e : j = k
  · subst e; rw [if_pos rfl, if_pos (Nat.lt_succ_self _), h]
  · rw [if_neg e]
    by_cases d : j < k
    · rw [if_pos d, if_pos (by omega)]
    · rw [if_neg d, if_neg (by omega)]
theorem fdK_n (g : Nat → FdT → FdT) (fd : Nat → FdT) (k : Nat) (h : g k (fd k) = fd k) : fdK g fd k = fdK g fd (k + 1) := by
  funext j; unfold fdK
  by_cases e : j = k
  · subst e; rw [if_neg (Nat.lt_irrefl _), if_pos (Nat.lt_succ_self _), h]
  · by_cases d : j < k
    · rw [if_pos d, if_pos (by omega)]
    · rw [if_neg d, if_neg (by omega)]
def zIn (lo hi : Nat) (v : Int32) : Prop := (lo : Int) ≤ v.toInt ∧ v.toInt ≤ (hi : Int)
def zIx (n : Nat) (v : Int32) : Prop := 0 ≤ v.toInt ∧ v.toInt < (n : Int)
theorem zNat {v : Int32} (h : 0 ≤ v.toInt) : ∃ j : Nat, v = nI j ∧ v.toInt = (j : Int) := by
  obtain ⟨j, h1, h2⟩ := nI_of (x := v) (fun q => by
    have := (zi_lt rfl zi_0).mp q
    omega)
  exact ⟨j, h2, by rw [h2]; exact nI_toInt h1⟩
theorem zIn_of {lo hi : Nat} {v : Int32} (h : zIn lo hi v) : ∃ j : Nat, v = nI j ∧ lo ≤ j ∧ j ≤ hi := by
  obtain ⟨h1, h2⟩ := h
  obtain ⟨j, h3, h4⟩ := zNat (v := v) (by omega)
  exact ⟨j, h3, by omega, by omega⟩
theorem zIx_of {n : Nat} {v : Int32} (h : zIx n v) : ∃ j : Nat, v = nI j ∧ j < n := by
  obtain ⟨h1, h2⟩ := h
  obtain ⟨j, h3, h4⟩ := zNat (v := v) h1
  exact ⟨j, h3, by omega⟩
-- spread, the feeder cut longest
def spT (fd : Nat → FdT) : Nat → Nat × Nat × Nat
  | 0 => (0, 0, 0)
  | k + 1 => if fCr (fd k) = 0 then (1, (if (spT fd k).1 = 0 then fHo (fd k) else if fHo (fd k) < (spT fd k).2.1 then fHo (fd k) else (spT fd k).2.1), (if (spT fd k).1 = 0 then fHo (fd k) else if (spT fd k).2.2 < fHo (fd k) then fHo (fd k) else (spT fd k).2.2)) else spT fd k
theorem spT_ok {fd : Nat → FdT} {B : Nat} : ∀ {k : Nat}, (∀ j, j < k → fHo (fd j) ≤ B) → (spT fd k).1 ≤ 1 ∧ (spT fd k).2.1 ≤ (spT fd k).2.2 ∧ (spT fd k).2.2 ≤ B
  | 0, _ => ⟨Nat.zero_le _, Nat.le_refl _, Nat.zero_le _⟩
  | k + 1, h => by
    obtain ⟨h1, h2, h3⟩ := spT_ok (k := k) (fun j hj => h j (by omega))
    have h4 := h k (by omega)
    rw [spT]
    split
    · refine ⟨Nat.le_refl _, ?_, ?_⟩
      · show (if (spT fd k).1 = 0 then fHo (fd k) else if fHo (fd k) < (spT fd k).2.1 then fHo (fd k) else (spT fd k).2.1) ≤ (if (spT fd k).1 = 0 then fHo (fd k) else if (spT fd k).2.2 < fHo (fd k) then fHo (fd k) else (spT fd k).2.2)
        split
        · exact Nat.le_refl _
        · split <;> split <;> omega
      · show (if (spT fd k).1 = 0 then fHo (fd k) else if (spT fd k).2.2 < fHo (fd k) then fHo (fd k) else (spT fd k).2.2) ≤ B
        split
        · exact h4
        · split <;> omega
    · exact ⟨h1, h2, h3⟩
def mcT (fd : Nat → FdT) : Nat → Nat × Nat × Nat
  | 0 => (0, 0, 0)
  | k + 1 => if (fOf (fd k) = 0 ∧ fCr (fd k) = 0) ∧ ((mcT fd k).1 = 0 ∨ (mcT fd k).2.2 < fHo (fd k)) then (1, k, fHo (fd k)) else mcT fd k
def mcI (t : Nat × Nat × Nat) : Int32 := if t.1 = 0 then -1 else nI t.2.1
theorem mcT_ok {fd : Nat → FdT} {B : Nat} : ∀ {k : Nat}, (∀ j, j < k → fHo (fd j) ≤ B) → (mcT fd k).2.1 ≤ k ∧ (mcT fd k).2.2 ≤ B
  | 0, _ => ⟨Nat.le_refl _, Nat.zero_le _⟩
  | k + 1, h => by
    obtain ⟨h1, h2⟩ := mcT_ok (k := k) (fun j hj => h j (by omega))
    have h4 := h k (by omega)
    rw [mcT]
    split
    · exact ⟨Nat.le_succ k, h4⟩
    · exact ⟨by omega, h2⟩
theorem mcI_iff {t : Nat × Nat × Nat} (h : t.2.1 ≤ 1000) : mcI t = -1 ↔ t.1 = 0 := by
  unfold mcI
  split
  · exact ⟨fun _ => by assumption, fun _ => rfl⟩
  · refine ⟨fun q => ?_, fun q => absurd q (by assumption)⟩
    have h1 : (nI t.2.1).toInt = (t.2.1 : Int) := nI_toInt (by omega)
    rw [q] at h1
    have : (-1 : Int32).toInt = -1 := by decide
    omega
theorem smV_s (f : Nat → Nat) (k : Nat) : smV f (k + 1) = smV f k + f k := rfl
theorem mn_nI {a b : Nat} (ha : a < 2147483648) (hb : b < 2147483648) : (if nI b < nI a then nI b else nI a) = nI (if b < a then b else a) := by
  by_cases c : b < a
  · rw [if_pos ((nI_ltI (by omega) (by omega)).mpr c), if_pos c]
  · rw [if_neg (fun q => c ((nI_ltI (by omega) (by omega)).mp q)), if_neg c]
theorem mx_nI {a b : Nat} (ha : a < 2147483648) (hb : b < 2147483648) : (if nI a < nI b then nI b else nI a) = nI (if a < b then b else a) := by
  by_cases c : a < b
  · rw [if_pos ((nI_ltI (by omega) (by omega)).mpr c), if_pos c]
  · rw [if_neg (fun q => c ((nI_ltI (by omega) (by omega)).mp q)), if_neg c]
def fdLd (j : Nat) (r : FdT) : FdT := (fSg r, j, fCr r, fOf r, fHo r, fTh r, fCo r)
def fdCr (j : Nat) (r : FdT) : FdT := (fSg r, fMw r, j, fOf r, fHo r, fTh r, fCo r)
theorem fdLd_ok {now j : Nat} {r : FdT} (h : fOk now r) (h1 : 1 ≤ j) (h2 : j ≤ 999) : fOk now (fdLd j r) := by
  obtain ⟨g1, g2, g3, g4, g5, g6, g7, g8⟩ := h
  exact ⟨g1, h1, h2, g4, g5, g6, g7, g8⟩
theorem fdCr_ok {now j : Nat} {r : FdT} (h : fOk now r) (h1 : j ≤ 1) : fOk now (fdCr j r) := by
  obtain ⟨g1, g2, g3, g4, g5, g6, g7, g8⟩ := h
  exact ⟨g1, g2, g3, h1, g5, g6, g7, g8⟩
def trG (j : Nat) (r : FdT) : FdT := if (fOf r = 0 ∧ fCr r = 0) ∧ 1 ≤ fSg r ∧ fSg r ≤ j then fOff r else r
def trT (j : Nat) (r : FdT) : Nat := if (fOf r = 0 ∧ fCr r = 0) ∧ 1 ≤ fSg r ∧ fSg r ≤ j then fTk r else 0
def reG (b i : Nat) (r : FdT) : FdT := if bitV b i = 1 then fOff r else r
def reT (b i : Nat) (r : FdT) : Nat := if bitV b i = 1 then fTk r else 0
def swG (b i : Nat) (r : FdT) : FdT := if fOf r = 1 ∧ fCr r = 0 then fOn r else if bitV b i = 1 then fOff r else r
def swT (r : FdT) : Nat := if fOf r = 1 ∧ fCr r = 0 then 1 else 0
def rtV (r : FdT) : Nat := if fOf r = 1 ∧ fCr r = 0 then fRs r else 0
end
section
-- the offered feeders, and what a choice is
def frP (r : FdT) : Prop := fOf r = 0 ∧ fCr r = 0
theorem frP_dec (r : FdT) : frP r ∨ ¬ frP r := Classical.em _
def Lst (fd : Nat → FdT) (nu tk hr : Nat → Nat) : Nat → Nat → Prop
  | 0, c => c = 0
  | k + 1, c => if fOf (fd k) = 0 ∧ fCr (fd k) = 0 then ∃ c', c = c' + 1 ∧ nu c' = k ∧ tk c' = fTk (fd k) ∧ hr c' = fHo (fd k) ∧ Lst fd nu tk hr k c' else Lst fd nu tk hr k c
theorem Lst_le {fd : Nat → FdT} {nu tk hr : Nat → Nat} : ∀ {k c : Nat}, Lst fd nu tk hr k c → c ≤ k
  | 0, c, h => by rw [Lst] at h; omega
  | k + 1, c, h => by
    rw [Lst] at h
    split at h
    · obtain ⟨c', rfl, -, -, -, h5⟩ := h
      have := Lst_le h5
      omega
    · have := Lst_le h
      omega
theorem Lst_cong {fd : Nat → FdT} {nu tk hr nu' tk' hr' : Nat → Nat} : ∀ {k c : Nat}, (∀ i, i < c → nu' i = nu i ∧ tk' i = tk i ∧ hr' i = hr i) → Lst fd nu tk hr k c → Lst fd nu' tk' hr' k c
  | 0, c, _, h => h
  | k + 1, c, hi, h => by
    rw [Lst] at h ⊢
    split
    · rw [if_pos (by assumption)] at h
      obtain ⟨c', rfl, h2, h3, h4, h5⟩ := h
      obtain ⟨g1, g2, g3⟩ := hi c' (by omega)
      exact ⟨c', rfl, g1.trans h2, g2.trans h3, g3.trans h4, Lst_cong (fun i hic => hi i (by omega)) h5⟩
    · rw [if_neg (by assumption)] at h
      exact Lst_cong hi h
theorem Lst_skip {fd : Nat → FdT} {nu tk hr : Nat → Nat} {k c : Nat} (hf : ¬ (fOf (fd k) = 0 ∧ fCr (fd k) = 0)) (h : Lst fd nu tk hr k c) : Lst fd nu tk hr (k + 1) c := by
  rw [Lst, if_neg hf]; exact h
theorem Lst_add {fd : Nat → FdT} {nu tk hr : Nat → Nat} {k c : Nat} (hf : fOf (fd k) = 0 ∧ fCr (fd k) = 0) (h : Lst fd nu tk hr k c) : Lst fd (va_up nu c k) (va_up tk c (fTk (fd k))) (va_up hr c (fHo (fd k))) (k + 1) (c + 1) := by
  rw [Lst, if_pos hf]
  exact ⟨c, rfl, va_up_self _ _ _, va_up_self _ _ _, va_up_self _ _ _, Lst_cong (fun i hi => ⟨va_up_ne _ _ (by omega), va_up_ne _ _ (by omega), va_up_ne _ _ (by omega)⟩) h⟩
def frC (fd : Nat → FdT) : Nat → Nat
  | 0 => 0
  | k + 1 => frC fd k + if fOf (fd k) = 0 ∧ fCr (fd k) = 0 then 1 else 0
theorem Lst_cnt {fd : Nat → FdT} {nu tk hr : Nat → Nat} : ∀ {k c : Nat}, Lst fd nu tk hr k c → c = frC fd k
  | 0, c, h => h
  | k + 1, c, h => by
    rw [Lst] at h
    rw [frC]
    split
    · rw [if_pos (by assumption)] at h
      obtain ⟨c', rfl, -, -, -, h5⟩ := h
      rw [Lst_cnt h5]
    · rw [if_neg (by assumption)] at h
      rw [Lst_cnt h]; rfl
theorem Lst_ok {fd : Nat → FdT} {nu tk hr : Nat → Nat} {now : Nat} (hnow : now ≤ 60000) : ∀ {k c : Nat}, k ≤ 12 → (∀ j, j < k → fOk now (fd j)) → Lst fd nu tk hr k c → wkOk nu tk hr c ∧ (∀ i, i < c → nu i < k ∧ 1 ≤ tk i)
  | 0, c, _, _, h => by
    rw [Lst] at h
    subst h
    exact ⟨⟨by decide, fun i hi => absurd hi (Nat.not_lt_zero i), fun i j _ hj => absurd hj (Nat.not_lt_zero j)⟩, fun i hi => absurd hi (Nat.not_lt_zero i)⟩
  | k + 1, c, hk, hf, h => by
    rw [Lst] at h
    split at h
    · rename_i hfr
      obtain ⟨c', rfl, h2, h3, h4, h5⟩ := h
      obtain ⟨⟨g1, g2, g3⟩, g4⟩ := Lst_ok hnow (by omega) (fun j hj => hf j (by omega)) h5
      have hle := Lst_le h5
      have hok := hf k (by omega)
      have ht := fTk_le hok
      have ht1 := fTk_pos hok hfr.1
      have hh : fHo (fd k) ≤ now := hok.2.2.2.2.2.1
      refine ⟨⟨by omega, fun i hi => ?_, fun i j hij hj => ?_⟩, fun i hi => ?_⟩
      · rcases Nat.lt_or_ge i c' with q | q
        · exact g2 i q
        · obtain rfl : i = c' := by omega
          refine ⟨by omega, by omega, by omega⟩
      · rcases Nat.lt_or_ge j c' with q | q
        · exact g3 i j hij q
        · obtain rfl : j = c' := by omega
          rw [h2]
          exact (g4 i hij).1
      · rcases Nat.lt_or_ge i c' with q | q
        · exact ⟨by have := (g4 i q).1; omega, (g4 i q).2⟩
        · obtain rfl : i = c' := by omega
          exact ⟨by omega, by omega⟩
    · obtain ⟨g, g4⟩ := Lst_ok hnow (by omega) (fun j hj => hf j (by omega)) h
      exact ⟨g, fun i hi => ⟨by have := (g4 i hi).1; omega, (g4 i hi).2⟩⟩
theorem smV_cong {f g : Nat → Nat} : ∀ {n : Nat}, (∀ i, i < n → f i = g i) → smV f n = smV g n
  | 0, _ => rfl
  | n + 1, h => by rw [smV, smV, smV_cong (fun i hi => h i (by omega)), h n (by omega)]
theorem prep_g4 {f4 f5 f6 : Nat → Int32} {nu tk hr : Nat → Nat} {c k t h : Nat} (g : ∀ i, i < c → f4 i = nI (2 ^ nu i) ∧ f5 i = nI (tk i) ∧ f6 i = nI (hr i)) : ∀ i, i < c + 1 → upd f4 c (nI (2 ^ k)) i = nI (2 ^ va_up nu c k i) ∧ upd f5 c (nI t) i = nI (va_up tk c t i) ∧ upd f6 c (nI h) i = nI (va_up hr c h i) := by
  intro i hi
  by_cases e : i = c
  · subst e
    rw [pk_us, pk_us, pk_us, va_up_self, va_up_self, va_up_self]
    exact ⟨rfl, rfl, rfl⟩
  · rw [pk_un e, pk_un e, pk_un e, va_up_ne _ _ e, va_up_ne _ _ e, va_up_ne _ _ e]
    exact g i (by omega)
theorem prep_g7 {f7 : Nat → Int32} {tk : Nat → Nat} {c t : Nat} (g : ∀ i, i ≤ c → f7 i = nI (smV tk i)) : ∀ i, i ≤ c + 1 → upd f7 (c + 1) (nI (smV tk c + t)) i = nI (smV (va_up tk c t) i) := by
  intro i hi
  have e0 : smV (va_up tk c t) c = smV tk c := smV_cong (fun j hj => va_up_ne _ _ (by omega))
  by_cases e : i = c + 1
  · subst e
    rw [pk_us, smV, e0, va_up_self]
  · rw [pk_un e, g i (by omega), show smV (va_up tk c t) i = smV tk i from smV_cong (fun j hj => va_up_ne _ _ (by omega))]
-- sets, their sums
def sT (fd : Nat → FdT) (s : Nat) : Nat → Nat
  | 0 => 0
  | k + 1 => sT fd s k + if bitV s k = 1 then fTk (fd k) else 0
def sH (fd : Nat → FdT) (s : Nat) : Nat → Nat
  | 0 => 0
  | k + 1 => sH fd s k + if bitV s k = 1 then fHo (fd k) else 0
def sF (fd : Nat → FdT) (s : Nat) (k : Nat) : Prop := ∀ j, j < k → bitV s j = 1 → fOf (fd j) = 0 ∧ fCr (fd j) = 0
def cand (n : Nat) (fd : Nat → FdT) (sf s : Nat) : Prop := s < 2 ^ n ∧ sF fd s n ∧ sf ≤ sT fd s n
def kyS (n : Nat) (fd : Nat → FdT) (nl s : Nat) : Nat := keyV nl (sT fd s n) (sH fd s n) s
def isB (n : Nat) (fd : Nat → FdT) (sl sf b : Nat) : Prop := (b = 0 ∧ ∀ s, ¬ cand n fd sf s) ∨ (cand n fd sf b ∧ ∀ s, cand n fd sf s → kyS n fd (sf + sl) b ≤ kyS n fd (sf + sl) s)
theorem bitV_add {a k : Nat} (h : a < 2 ^ k) : bitV (a + 2 ^ k) k = 1 ∧ ∀ j, j < k → bitV (a + 2 ^ k) j = bitV a j := by
  have hp : 0 < 2 ^ k := Nat.pow_pos (by decide)
  refine ⟨?_, fun j hj => ?_⟩
  · unfold bitV
    rw [Nat.add_div_right _ hp, Nat.div_eq_of_lt h]
  · unfold bitV
    have e : (2 : Nat) ^ k = 2 ^ j * (2 * 2 ^ (k - j - 1)) := by
      rw [← Nat.pow_succ', ← Nat.pow_add, show j + (k - j - 1).succ = k by omega]
    rw [e, Nat.add_mul_div_left _ _ (Nat.pow_pos (by decide)), Nat.add_mul_mod_self_left]
theorem bitV_hi {a k : Nat} (h : a < 2 ^ k) : bitV a k = 0 := by
  unfold bitV; rw [Nat.div_eq_of_lt h]
theorem sS_cong {fd : Nat → FdT} {a b : Nat} : ∀ {k : Nat}, (∀ j, j < k → bitV a j = bitV b j) → sT fd a k = sT fd b k ∧ sH fd a k = sH fd b k ∧ (sF fd a k ↔ sF fd b k)
  | 0, _ => ⟨rfl, rfl, ⟨fun _ j hj => absurd hj (Nat.not_lt_zero j), fun _ j hj => absurd hj (Nat.not_lt_zero j)⟩⟩
  | k + 1, h => by
    obtain ⟨h1, h2, -⟩ := sS_cong (k := k) (fd := fd) (fun j hj => h j (by omega))
    refine ⟨by rw [sT, sT, h1, h k (by omega)], by rw [sH, sH, h2, h k (by omega)], fun g j hj hb => g j hj (by rw [h j hj]; exact hb), fun g j hj hb => g j hj (by rw [← h j hj]; exact hb)⟩
-- the sums that o of the offered give
def Rc (nu tk hr : Nat → Nat) : Nat → Tri → Prop
  | 0, z => z = (0, 0, 0)
  | o + 1, z => Rc nu tk hr o z ∨ ∃ z' : Tri, Rc nu tk hr o z' ∧ z = adV (elV nu tk hr o) z'
theorem Rc_0 {nu tk hr : Nat → Nat} : ∀ o, Rc nu tk hr o (0, 0, 0)
  | 0 => rfl
  | o + 1 => Or.inl (Rc_0 o)
theorem adV_0 (x : Tri) : adV x (0, 0, 0) = x := rfl
theorem adV_c (x y : Tri) : adV x y = adV y x := by unfold adV; rw [Nat.add_comm x.1, Nat.add_comm x.2.1, Nat.add_comm x.2.2]
theorem adV_a (x y z : Tri) : adV x (adV y z) = adV (adV x y) z := by
  show (x.1 + (y.1 + z.1), x.2.1 + (y.2.1 + z.2.1), x.2.2 + (y.2.2 + z.2.2)) = ((x.1 + y.1) + z.1, (x.2.1 + y.2.1) + z.2.1, (x.2.2 + y.2.2) + z.2.2)
  rw [Nat.add_assoc, Nat.add_assoc, Nat.add_assoc]
theorem Rc_sm {nu tk hr : Nat → Nat} : ∀ {o : Nat} {z : Tri}, Rc nu tk hr o z → z.2.1 ≤ smV tk o
  | 0, z, h => by
    rw [Rc] at h; subst h; exact Nat.le_refl _
  | o + 1, z, h => by
    rw [Rc] at h
    rw [smV]
    rcases h with h | ⟨z', h, rfl⟩
    · have := Rc_sm h; omega
    · have := Rc_sm h
      show tk o + z'.2.1 ≤ _
      omega
abbrev kyT (nl : Nat) (x : Tri) : Nat := keyV nl x.2.1 x.2.2 x.1
theorem kyT_mono {nl : Nat} {x z : Tri} (h : bdV x) : kyT nl x ≤ kyT nl (adV x z) := by
  obtain ⟨h1, h2, h3⟩ := h
  show keyV nl x.2.1 x.2.2 x.1 ≤ keyV nl (x.2.1 + z.2.1) (x.2.2 + z.2.2) (x.1 + z.1)
  unfold keyV
  split <;> split <;> omega
theorem wg_all {nl : Nat} {x b : Tri} (hx : x.1 ≠ 0) : (wgV nl x b = b ∨ wgV nl x b = x) ∧ (wgV nl x b).1 ≠ 0 ∧ kyT nl (wgV nl x b) ≤ kyT nl x ∧ (b.1 ≠ 0 → kyT nl (wgV nl x b) ≤ kyT nl b) := by
  unfold wgV
  split
  · rename_i c
    refine ⟨Or.inr rfl, hx, Nat.le_refl _, fun hb => ?_⟩
    rcases c with c | c
    · exact absurd c hb
    · exact Nat.le_of_lt c
  · rename_i c
    refine ⟨Or.inl rfl, fun e => c (Or.inl e), ?_, fun _ => Nat.le_refl _⟩
    exact Nat.not_lt.mp (fun e => c (Or.inr e))
theorem wk_all {nl sf : Nat} {nu tk hr : Nat → Nat} {cnt : Nat} (hk : wkOk nu tk hr cnt) (h1 : 1 ≤ sf) : ∀ (o : Nat) (x b : Tri), o ≤ cnt → xOk nu o x → (x.1 = 0 → x.2.1 = 0) →
    (wkV nl sf nu tk hr o x b = b ∨ ∃ z, Rc nu tk hr o z ∧ wkV nl sf nu tk hr o x b = adV x z ∧ sf ≤ (adV x z).2.1) ∧ (b.1 ≠ 0 → (wkV nl sf nu tk hr o x b).1 ≠ 0 ∧ kyT nl (wkV nl sf nu tk hr o x b) ≤ kyT nl b) ∧
    (∀ z, Rc nu tk hr o z → sf ≤ (adV x z).2.1 → (wkV nl sf nu tk hr o x b).1 ≠ 0 ∧ kyT nl (wkV nl sf nu tk hr o x b) ≤ kyT nl (adV x z)) := by
  intro o
  induction o with
  | zero =>
    intro x b _ hx hz
    by_cases c : sf ≤ x.2.1
    · rw [wkV_meet c]
      obtain ⟨g1, g2, g3, g4⟩ := wg_all (nl := nl) (x := x) (b := b) (fun e => absurd (hz e) (by omega))
      refine ⟨?_, fun hb => ⟨g2, g4 hb⟩, fun z _ _ => ⟨g2, Nat.le_trans g3 (kyT_mono hx.bd)⟩⟩
      rcases g1 with g1 | g1
      · exact Or.inl g1
      · exact Or.inr ⟨(0, 0, 0), Rc_0 _, g1, c⟩
    · rw [wkV_cut c (Or.inl rfl)]
      refine ⟨Or.inl rfl, fun hb => ⟨hb, Nat.le_refl _⟩, fun z hz9 hs => ?_⟩
      rw [Rc] at hz9; subst hz9
      exact absurd hs c
  | succ o ih =>
    intro x b ho hx hz
    by_cases c : sf ≤ x.2.1
    · rw [wkV_meet c]
      obtain ⟨g1, g2, g3, g4⟩ := wg_all (nl := nl) (x := x) (b := b) (fun e => absurd (hz e) (by omega))
      refine ⟨?_, fun hb => ⟨g2, g4 hb⟩, fun z _ _ => ⟨g2, Nat.le_trans g3 (kyT_mono hx.bd)⟩⟩
      rcases g1 with g1 | g1
      · exact Or.inl g1
      · exact Or.inr ⟨(0, 0, 0), Rc_0 _, g1, c⟩
    · by_cases d : x.2.1 + smV tk (o + 1) < sf
      · rw [wkV_cut c (Or.inr d)]
        refine ⟨Or.inl rfl, fun hb => ⟨hb, Nat.le_refl _⟩, fun z hz9 hs => ?_⟩
        have := Rc_sm hz9
        have hs' : sf ≤ x.2.1 + z.2.1 := hs
        omega
      · rw [show wkV nl sf nu tk hr (o + 1) x b = wkV nl sf nu tk hr o (adV x (elV nu tk hr o)) (wkV nl sf nu tk hr o x b) from wkV_go c (Nat.succ_pos o) d]
        obtain ⟨a1, a2, a3⟩ := ih x b (by omega) hx.stay hz
        have hgo : xOk nu o (adV x (elV nu tk hr o)) := xOk.go (o := o + 1) hk (Nat.succ_pos o) ho hx
        obtain ⟨b1, b2, b3⟩ := ih (adV x (elV nu tk hr o)) (wkV nl sf nu tk hr o x b) (by omega) hgo (fun e => by
          have e' : x.1 + 2 ^ nu o = 0 := e
          have : 0 < 2 ^ nu o := Nat.pow_pos (by decide)
          omega)
        refine ⟨?_, fun hb => ?_, fun z hz9 hs => ?_⟩
        · rcases b1 with b1 | ⟨z, q1, q2, q3⟩
          · rcases a1 with a1 | ⟨z, q1, q2, q3⟩
            · exact Or.inl (b1.trans a1)
            · exact Or.inr ⟨z, Or.inl q1, b1.trans q2, q3⟩
          · rw [← adV_a] at q2 q3
            exact Or.inr ⟨_, Or.inr ⟨z, q1, rfl⟩, q2, q3⟩
        · obtain ⟨q1, q2⟩ := a2 hb
          obtain ⟨q3, q4⟩ := b2 q1
          exact ⟨q3, Nat.le_trans q4 q2⟩
        · rw [Rc] at hz9
          rcases hz9 with hz9 | ⟨z', hz9, rfl⟩
          · obtain ⟨q1, q2⟩ := a3 z hz9 hs
            obtain ⟨q3, q4⟩ := b2 q1
            exact ⟨q3, Nat.le_trans q4 q2⟩
          · rw [adV_a] at hs ⊢
            exact b3 z' hz9 hs
-- the sums and the sets
def Vs (fd : Nat → FdT) (k : Nat) (z : Tri) : Prop := z.1 < 2 ^ k ∧ sF fd z.1 k ∧ z.2.1 = sT fd z.1 k ∧ z.2.2 = sH fd z.1 k
theorem Vs_up0 {fd : Nat → FdT} {k : Nat} {z : Tri} (h : Vs fd k z) : Vs fd (k + 1) z := by
  obtain ⟨h1, h2, h3, h4⟩ := h
  have hb := bitV_hi h1
  refine ⟨by rw [Nat.pow_succ]; omega, fun j hj hb1 => ?_, by rw [sT, hb]; exact h3, by rw [sH, hb]; exact h4⟩
  rcases Nat.lt_or_ge j k with c | c
  · exact h2 j c hb1
  · obtain rfl : j = k := by omega
    rw [hb] at hb1; exact absurd hb1 (by decide)
theorem Vs_up1 {fd : Nat → FdT} {k : Nat} {z : Tri} (hf : fOf (fd k) = 0 ∧ fCr (fd k) = 0) (h : Vs fd k z) : Vs fd (k + 1) (adV (2 ^ k, fTk (fd k), fHo (fd k)) z) := by
  obtain ⟨h1, h2, h3, h4⟩ := h
  obtain ⟨b1, b2⟩ := bitV_add h1
  obtain ⟨g1, g2, g3⟩ := sS_cong (fd := fd) b2
  rw [Nat.add_comm] at b1 g1 g2 g3
  refine ⟨by show 2 ^ k + z.1 < 2 ^ (k + 1); rw [Nat.pow_succ]; omega, fun j hj hb1 => ?_, ?_, ?_⟩
  · rcases Nat.lt_or_ge j k with c | c
    · exact g3.mpr h2 j c hb1
    · obtain rfl : j = k := by omega
      exact hf
  · show fTk (fd k) + z.2.1 = sT fd (2 ^ k + z.1) (k + 1)
    rw [sT, b1, g1, h3, if_pos rfl, Nat.add_comm]
  · show fHo (fd k) + z.2.2 = sH fd (2 ^ k + z.1) (k + 1)
    rw [sH, b1, g2, h4, if_pos rfl, Nat.add_comm]
theorem bitV_mid {a k : Nat} (h : a < 2 ^ (k + 1)) (h2 : 2 ^ k ≤ a) : bitV a k = 1 := by
  have := (bitV_add (a := a - 2 ^ k) (k := k) (by rw [Nat.pow_succ] at h; omega)).1
  rw [Nat.sub_add_cancel h2] at this; exact this
theorem Vs_dn0 {fd : Nat → FdT} {k : Nat} {z : Tri} (h : Vs fd (k + 1) z) (h2 : z.1 < 2 ^ k) : Vs fd k z := by
  obtain ⟨g1, g2, g3, g4⟩ := h
  have hb := bitV_hi h2
  rw [sT, hb] at g3; rw [sH, hb] at g4
  exact ⟨h2, fun j hj => g2 j (by omega), g3, g4⟩
theorem Vs_dn1 {fd : Nat → FdT} {k : Nat} {z : Tri} (h : Vs fd (k + 1) z) (h2 : 2 ^ k ≤ z.1) : (fOf (fd k) = 0 ∧ fCr (fd k) = 0) ∧ ∃ z', Vs fd k z' ∧ z = adV (2 ^ k, fTk (fd k), fHo (fd k)) z' := by
  obtain ⟨g1, g2, g3, g4⟩ := h
  have hm := bitV_mid g1 h2
  have hl : z.1 - 2 ^ k < 2 ^ k := by rw [Nat.pow_succ] at g1; omega
  obtain ⟨b1, b2⟩ := bitV_add hl
  rw [Nat.sub_add_cancel h2] at b1 b2
  obtain ⟨q1, q2, q3⟩ := sS_cong (fd := fd) b2
  rw [sT, hm, if_pos rfl, q1] at g3; rw [sH, hm, if_pos rfl, q2] at g4
  refine ⟨g2 k (Nat.lt_succ_self k) hm, (z.1 - 2 ^ k, sT fd (z.1 - 2 ^ k) k, sH fd (z.1 - 2 ^ k) k), ⟨hl, q3.mp (fun j hj => g2 j (by omega)), rfl, rfl⟩, ?_⟩
  show z = (2 ^ k + (z.1 - 2 ^ k), fTk (fd k) + sT fd (z.1 - 2 ^ k) k, fHo (fd k) + sH fd (z.1 - 2 ^ k) k)
  rw [Nat.add_comm (fTk (fd k)), Nat.add_comm (fHo (fd k)), ← g3, ← g4, show 2 ^ k + (z.1 - 2 ^ k) = z.1 by omega]
theorem Rc_Vs {fd : Nat → FdT} {nu tk hr : Nat → Nat} : ∀ {k c : Nat}, Lst fd nu tk hr k c → ∀ z, Rc nu tk hr c z ↔ Vs fd k z
  | 0, c, h, z => by
    rw [Lst] at h; subst h
    rw [Rc]
    constructor
    · rintro rfl
      exact ⟨Nat.one_pos, fun j hj => absurd hj (Nat.not_lt_zero j), rfl, rfl⟩
    · obtain ⟨z1, z2, z3⟩ := z
      rintro ⟨h1, -, h3, h4⟩
      have e1 : z1 = 0 := by
        have : z1 < 1 := h1
        omega
      have e2 : z2 = 0 := h3
      have e3 : z3 = 0 := h4
      subst e1 e2 e3
      rfl
  | k + 1, c, h, z => by
    rw [Lst] at h
    split at h
    · rename_i hf
      obtain ⟨c', rfl, e1, e2, e3, h5⟩ := h
      have ih := Rc_Vs h5
      have hel : elV nu tk hr c' = (2 ^ k, fTk (fd k), fHo (fd k)) := by unfold elV; rw [e1, e2, e3]
      rw [Rc, hel]
      constructor
      · rintro (g | ⟨z', g, rfl⟩)
        · exact Vs_up0 ((ih z).mp g)
        · exact Vs_up1 hf ((ih z').mp g)
      · intro g
        rcases Nat.lt_or_ge z.1 (2 ^ k) with d | d
        · exact Or.inl ((ih z).mpr (Vs_dn0 g d))
        · obtain ⟨-, z', g1, g2⟩ := Vs_dn1 g d
          exact Or.inr ⟨z', (ih z').mpr g1, g2⟩
    · rename_i hf
      have ih := Rc_Vs h z
      rw [ih]
      constructor
      · exact Vs_up0
      · intro g
        rcases Nat.lt_or_ge z.1 (2 ^ k) with d | d
        · exact Vs_dn0 g d
        · exact absurd (Vs_dn1 g d).1 hf
theorem isB_of {n : Nat} {fd : Nat → FdT} {sl sf : Nat} {r : Tri} (hA : r.1 = 0 ∨ (Vs fd n r ∧ sf ≤ r.2.1)) (hC : ∀ z, Vs fd n z → sf ≤ z.2.1 → r.1 ≠ 0 ∧ kyT (sf + sl) r ≤ kyT (sf + sl) z) : isB n fd sl sf r.1 := by
  by_cases e : r.1 = 0
  · refine Or.inl ⟨e, fun s hs => ?_⟩
    exact (hC (s, sT fd s n, sH fd s n) ⟨hs.1, hs.2.1, rfl, rfl⟩ hs.2.2).1 e
  · rcases hA with hA | ⟨⟨g1, g2, g3, g4⟩, g5⟩
    · exact absurd hA e
    · refine Or.inr ⟨⟨g1, g2, by rw [← g3]; exact g5⟩, fun s hs => ?_⟩
      have := (hC (s, sT fd s n, sH fd s n) ⟨hs.1, hs.2.1, rfl, rfl⟩ hs.2.2).2
      unfold kyS
      rw [← g3, ← g4]
      exact this
theorem trV_cong {nu tk hr : Nat → Nat} {a b : Nat} : ∀ {i : Nat}, (∀ j, j < i → bitV a j = bitV b j) → trV nu tk hr a i = trV nu tk hr b i
  | 0, _ => rfl
  | i + 1, h => by rw [trV, trV, trV_cong (fun j hj => h j (by omega)), h i (by omega)]
theorem trV_Rc {nu tk hr : Nat → Nat} (c : Nat) : ∀ i, Rc nu tk hr i (trV nu tk hr c i)
  | 0 => rfl
  | i + 1 => by
    rw [trV, Rc]
    split
    · exact Or.inr ⟨_, trV_Rc c i, adV_c _ _⟩
    · exact Or.inl (trV_Rc c i)
theorem Rc_trV {nu tk hr : Nat → Nat} : ∀ {i : Nat} {z : Tri}, Rc nu tk hr i z → ∃ c, c < 2 ^ i ∧ z = trV nu tk hr c i
  | 0, z, h => ⟨0, Nat.one_pos, h⟩
  | i + 1, z, h => by
    rw [Rc] at h
    rcases h with h | ⟨z', h, rfl⟩
    · obtain ⟨c, h1, rfl⟩ := Rc_trV h
      refine ⟨c, by rw [Nat.pow_succ]; omega, ?_⟩
      rw [trV, bitV_hi h1]; rfl
    · obtain ⟨c, h1, rfl⟩ := Rc_trV h
      obtain ⟨b1, b2⟩ := bitV_add h1
      refine ⟨c + 2 ^ i, by rw [Nat.pow_succ]; omega, ?_⟩
      rw [trV, b1, if_pos rfl, trV_cong b2, adV_c]
theorem trV_0 {nu tk hr : Nat → Nat} : ∀ i, trV nu tk hr 0 i = (0, 0, 0)
  | 0 => rfl
  | i + 1 => by
    rw [trV, trV_0 i, show bitV 0 i = 0 by unfold bitV; rw [Nat.zero_div]]; rfl
theorem Rc_z {nu tk hr : Nat → Nat} : ∀ {o : Nat} {z : Tri}, Rc nu tk hr o z → z.1 = 0 → z.2.1 = 0
  | 0, z, h, _ => by rw [Rc] at h; subst h; rfl
  | o + 1, z, h, e => by
    rw [Rc] at h
    rcases h with h | ⟨z', h, rfl⟩
    · exact Rc_z h e
    · have e' : 2 ^ nu o + z'.1 = 0 := e
      have : 0 < 2 ^ nu o := Nat.pow_pos (by decide)
      omega
theorem bl_all {nl sf : Nat} {nu tk hr : Nat → Nat} {cnt : Nat} {b : Tri} (h1 : 1 ≤ sf) : ∀ j : Nat,
    (blV nl sf nu tk hr cnt b j = b ∨ (Rc nu tk hr cnt (blV nl sf nu tk hr cnt b j) ∧ sf ≤ (blV nl sf nu tk hr cnt b j).2.1)) ∧
    (∀ c, 1 ≤ c → c ≤ j → sf ≤ (trV nu tk hr c cnt).2.1 → (blV nl sf nu tk hr cnt b j).1 ≠ 0 ∧ kyT nl (blV nl sf nu tk hr cnt b j) ≤ kyT nl (trV nu tk hr c cnt))
  | 0 => ⟨Or.inl rfl, fun c q1 q2 => by omega⟩
  | j + 1 => by
    obtain ⟨a1, a2⟩ := bl_all (nl := nl) (nu := nu) (tk := tk) (hr := hr) (cnt := cnt) (b := b) h1 j
    rw [blV]
    unfold lsV
    by_cases c : sf ≤ (trV nu tk hr (j + 1) cnt).2.1
    · rw [if_pos c]
      have hR := trV_Rc (nu := nu) (tk := tk) (hr := hr) (j + 1) cnt
      obtain ⟨g1, g2, g3, g4⟩ := wg_all (nl := nl) (x := trV nu tk hr (j + 1) cnt) (b := blV nl sf nu tk hr cnt b j) (fun e => absurd (Rc_z hR e) (by omega))
      refine ⟨?_, fun c9 q1 q2 q3 => ⟨g2, ?_⟩⟩
      · rcases g1 with g1 | g1
        · rw [g1]; exact a1
        · rw [g1]; exact Or.inr ⟨hR, c⟩
      · rcases Nat.lt_or_ge c9 (j + 1) with d | d
        · obtain ⟨p1, p2⟩ := a2 c9 q1 (by omega) q3
          exact Nat.le_trans (g4 p1) p2
        · obtain rfl : c9 = j + 1 := by omega
          exact g3
    · rw [if_neg c]
      refine ⟨a1, fun c9 q1 q2 q3 => ?_⟩
      rcases Nat.lt_or_ge c9 (j + 1) with d | d
      · exact a2 c9 q1 (by omega) q3
      · obtain rfl : c9 = j + 1 := by omega
        exact absurd q3 c
theorem best_walk {n now : Nat} {fd : Nat → FdT} {nu tk hr : Nat → Nat} {cnt sl sf bt bh : Nat} (hn : n ≤ 12) (hnow : now ≤ 60000) (hf : ∀ j, j < n → fOk now (fd j)) (hl : Lst fd nu tk hr n cnt) (h1 : 1 ≤ sf) (h2 : sf + sl < 1048576) : isB n fd sl sf (wkV (sf + sl) sf nu tk hr cnt (0, 0, 0) (0, bt, bh)).1 ∧ (wkV (sf + sl) sf nu tk hr cnt (0, 0, 0) (0, bt, bh)).1 < 4096 := by
  have hk := (Lst_ok hnow hn hf hl).1
  obtain ⟨a1, -, a3⟩ := wk_all (nl := sf + sl) hk h1 cnt (0, 0, 0) (0, bt, bh) (Nat.le_refl _) (xOk0 _ _ hk.1) (fun _ => rfl)
  have hz : ∀ z : Tri, adV (0, 0, 0) z = z := fun z => (adV_c _ _).trans (adV_0 z)
  have hb : (wkV (sf + sl) sf nu tk hr cnt (0, 0, 0) (0, bt, bh)).1 = 0 ∨ (Vs fd n (wkV (sf + sl) sf nu tk hr cnt (0, 0, 0) (0, bt, bh)) ∧ sf ≤ (wkV (sf + sl) sf nu tk hr cnt (0, 0, 0) (0, bt, bh)).2.1) := by
    rcases a1 with a1 | ⟨z, q1, q2, q3⟩
    · rw [a1]; exact Or.inl rfl
    · rw [q2]; rw [hz] at q3 ⊢; exact Or.inr ⟨(Rc_Vs hl z).mp q1, q3⟩
  refine ⟨isB_of hb (fun z hv hs => ?_), ?_⟩
  · have := a3 z ((Rc_Vs hl z).mpr hv) (by rw [hz]; exact hs)
    rw [hz] at this; exact this
  · rcases hb with hb | hb
    · rw [hb]; decide
    · have : 2 ^ n ≤ 2 ^ 12 := Nat.pow_le_pow_right (by decide) hn
      exact Nat.lt_of_lt_of_le hb.1.1 this
theorem best_list {n now : Nat} {fd : Nat → FdT} {nu tk hr : Nat → Nat} {cnt sl sf bt bh : Nat} (hn : n ≤ 12) (hnow : now ≤ 60000) (hf : ∀ j, j < n → fOk now (fd j)) (hl : Lst fd nu tk hr n cnt) (h1 : 1 ≤ sf) (h2 : sf + sl < 1048576) : isB n fd sl sf (blV (sf + sl) sf nu tk hr cnt (0, bt, bh) (2 ^ cnt - 1)).1 := by
  have hk := (Lst_ok hnow hn hf hl).1
  obtain ⟨a1, a3⟩ := bl_all (nl := sf + sl) (nu := nu) (tk := tk) (hr := hr) (cnt := cnt) (b := (0, bt, bh)) h1 (2 ^ cnt - 1)
  refine isB_of ?_ (fun z hv hs => ?_)
  · rcases a1 with a1 | ⟨a1, a2⟩
    · rw [a1]; exact Or.inl rfl
    · exact Or.inr ⟨(Rc_Vs hl _).mp a1, a2⟩
  · obtain ⟨c, q1, rfl⟩ := Rc_trV ((Rc_Vs hl z).mpr hv)
    have q2 : c ≠ 0 := fun e => by
      subst e; rw [trV_0] at hs
      have : sf ≤ 0 := hs
      omega
    exact a3 c (by omega) (by omega) hs
end
section
set_option maxHeartbeats 4000000 in
set_option maxRecDepth 100000 in
theorem c_X2_requireWithin (l : Launch) (hlst : l.stackTraces = false) (G : zGt) (L : List Nat) (F : Nat → va_E) (v : Int32) (lo hi : Nat) (hlo : lo < 100000) (hhi : hi < 100000) : zX l yX2_requireWithin wsX2_requireWithin 7 90 1 6 G L F [.int v, .int (nI lo), .int (nI hi)] (fun rv L1 F1 => rv = none ∧ L1 = L ∧ F1 = F ∧ zIn lo hi v) (fun E L1 F1 => L1 = L ∧ F1 = F ∧ E = "java/lang/IllegalArgumentException" ∧ ¬ zIn lo hi v) := by
  refine z_ofX (cc := cX2_requireWithin) (nL := 3) (ret := none) (own := RX2) hlst (by decide +kernel) rfl rfl (Nat.le_of_ble_eq_true rfl) ?_
  intro p e s m below meth c A hout C
  refine z_lvs (lv' := [(0, .int v), (1, .int (nI lo)), (2, .int (nI hi))]) rfl ?_
  refine z_iload_n C dX2_requireWithin_0 rfl 0 rfl ?_
  refine z_iload_n C dX2_requireWithin_1 rfl 1 rfl ?_
  refine z_icmp_lt C 10 ((v).toInt < ((lo : Nat) : Int)) (zi_lt rfl (zi_N (n := lo) (by omega))) dX2_requireWithin_2 (by decide) (fun c1_ => ?_) (fun c1_ => ?_)
  · -- 2 taken
    refine z_throw (cls := "java/lang/IllegalArgumentException") (text := "out of range") (ik := 146) (is := 148) (ic := 150) C rfl (by decide +kernel) (by decide +kernel) (by decide +kernel) (by decide +kernel) ["java/lang/RuntimeException", "java/lang/Exception"] (by decide +kernel) (by decide +kernel) (by decide +kernel) (by decide +kernel) (by decide +kernel) dX2_requireWithin_10 dX2_requireWithin_13 dX2_requireWithin_14 dX2_requireWithin_16 dX2_requireWithin_19 hout (Nat.le_of_ble_eq_true rfl) (Nat.le_of_ble_eq_true rfl) (Nat.le_of_ble_eq_true rfl) (Nat.le_of_ble_eq_true rfl) (Nat.le_of_ble_eq_true rfl) (Nat.le_of_ble_eq_true rfl) ?_
    exact ⟨rfl, rfl, rfl, fun h9 => (by obtain ⟨g1, g2⟩ := h9; omega)⟩
  · -- 2 not taken
    refine z_iload_n C dX2_requireWithin_5 rfl 0 rfl ?_
    refine z_iload_n C dX2_requireWithin_6 rfl 2 rfl ?_
    refine z_icmp_le C 20 ((v).toInt ≤ ((hi : Nat) : Int)) (zi_le rfl (zi_N (n := hi) (by omega))) dX2_requireWithin_7 (by decide) (fun c2_ => ?_) (fun c2_ => ?_)
    · -- 7 taken
      refine z_vret C rfl (by decide) (by decide) dX2_requireWithin_20 ?_
      exact ⟨rfl, rfl, rfl, ⟨by omega, by omega⟩⟩
    · -- 7 not taken
      refine z_throw (cls := "java/lang/IllegalArgumentException") (text := "out of range") (ik := 146) (is := 148) (ic := 150) C rfl (by decide +kernel) (by decide +kernel) (by decide +kernel) (by decide +kernel) ["java/lang/RuntimeException", "java/lang/Exception"] (by decide +kernel) (by decide +kernel) (by decide +kernel) (by decide +kernel) (by decide +kernel) dX2_requireWithin_10 dX2_requireWithin_13 dX2_requireWithin_14 dX2_requireWithin_16 dX2_requireWithin_19 hout (Nat.le_of_ble_eq_true rfl) (Nat.le_of_ble_eq_true rfl) (Nat.le_of_ble_eq_true rfl) (Nat.le_of_ble_eq_true rfl) (Nat.le_of_ble_eq_true rfl) (Nat.le_of_ble_eq_true rfl) ?_
      exact ⟨rfl, rfl, rfl, fun h9 => (by obtain ⟨g1, g2⟩ := h9; omega)⟩

set_option maxRecDepth 100000 in
theorem hin_X2_feederOf_X2 : ∀ w ∈ u_ws RX2 TX2 4, w ∈ wsX2_feederOf := by decide +kernel
set_option maxHeartbeats 4000000 in
set_option maxRecDepth 100000 in
theorem c_X2_feederOf (l : Launch) (hlst : l.stackTraces = false) (G : zGt) (L : List Nat) (F : Nat → va_E) (M : Nat → Prop) (a0 a1 a2 b4 b5 b6 b7 : Nat) (ad : Nat → Nat) (n now sl : Nat) (fd : Nat → FdT) (hco : zCo G M L F a0 a1 a2 b4 b5 b6 b7 ad n now sl fd) (x : Int32) : zX l yX2_feederOf wsX2_feederOf 10 154 1 6 G L F [.ref a0, .int x] (fun rv L1 F1 => ∃ k : Nat, k < n ∧ x = nI k ∧ rv = some (.ref (ad k)) ∧ L1 = L ∧ F1 = F) (fun E L1 F1 => L1 = L ∧ F1 = F ∧ E = "java/lang/IndexOutOfBoundsException" ∧ ¬ zIx n x) := by
  obtain ⟨⟨hL0, hL1, hL2, hL4, hL5, hL6, hL7⟩, hF0, ⟨mo, ea, nn, fe, hF1, hFe, hfe, hMe⟩, hSr, hNb, hFd, hIj, ⟨hn, hnow, hsl⟩, hM0, hM1, hM2, hM4, hM5, hM6, hM7⟩ := id hco
  refine z_ofX (cc := cX2_feederOf) (nL := 2) (ret := (some (.object "Shedwheel$Feeder"))) (own := RX2) hlst (by decide +kernel) rfl rfl (Nat.le_of_ble_eq_true rfl) ?_
  intro p e s m below meth c A hout C
  refine z_lvs (lv' := [(0, .ref a0), (1, .int x)]) rfl ?_
  refine z_iload_n C dX2_feederOf_0 rfl 1 rfl ?_
  refine z_if_lt C 15 ((x).toInt < (0 : Int)) (zi_lt rfl zi_0) dX2_feederOf_1 (by decide) (fun c1_ => ?_) (fun c1_ => ?_)
  · -- 1 taken
    refine z_throw (cls := "java/lang/IndexOutOfBoundsException") (text := "no such feeder") (ik := 151) (is := 153) (ic := 155) C rfl (by decide +kernel) (by decide +kernel) (by decide +kernel) (by decide +kernel) ["java/lang/RuntimeException", "java/lang/Exception"] (by decide +kernel) (by decide +kernel) (by decide +kernel) (by decide +kernel) (by decide +kernel) dX2_feederOf_15 dX2_feederOf_18 dX2_feederOf_19 dX2_feederOf_21 dX2_feederOf_24 hout (Nat.le_of_ble_eq_true rfl) (Nat.le_of_ble_eq_true rfl) (Nat.le_of_ble_eq_true rfl) (Nat.le_of_ble_eq_true rfl) (Nat.le_of_ble_eq_true rfl) (Nat.le_of_ble_eq_true rfl) ?_
    exact ⟨rfl, rfl, rfl, fun h9 => (by obtain ⟨g1, g2⟩ := h9; omega)⟩
  · -- 1 not taken
    refine z_iload_n C dX2_feederOf_4 rfl 1 rfl ?_
    refine z_aload_n C dX2_feederOf_5 rfl 0 rfl ?_
    refine z_get (ref := "Shedwheel") (v := .ref a1) C hin_X2_feederOf_X2 hL0 hF0 rfl 0 (by decide) (by decide +kernel) (fun _ h9 => h9) rfl dX2_feederOf_6 ?_
    refine z_callV (As := []) (st := [.int x]) (mc := 0) (ms := 0) C hL1 hF1 rfl (c_Jx4a65c_size_8abf5 l hlst G L F a1 mo ea n hL1 hF1 ) (cwV 0 C.1.2.2.2.2 gX2_feederOf_Jx4a65c_size_8abf5 rfl rfl rfl (by decide +kernel) ⟨Nat.le_of_ble_eq_true rfl, Nat.le_of_ble_eq_true rfl⟩) rfl (Nat.le_of_ble_eq_true rfl) ⟨Nat.le_of_ble_eq_true rfl, Nat.le_of_ble_eq_true rfl⟩ dX2_feederOf_9 (z_p ?_)
    refine z_stk (st' := [.int (nI n), .int x]) rfl ?_
    refine z_icmp_lt C 25 ((x).toInt < ((n : Nat) : Int)) (zi_lt rfl (zi_N (n := n) (by omega))) dX2_feederOf_12 (by decide) (fun c2_ => ?_) (fun c2_ => ?_)
    · -- 12 taken
      obtain ⟨k, hxk, hkn⟩ := zIx_of (n := n) (v := x) ⟨by omega, by omega⟩
      refine z_lvs (lv' := [(0, .ref a0), (1, .int (nI k))]) (by rw [hxk]) ?_
      refine z_aload_n C dX2_feederOf_25 rfl 0 rfl ?_
      refine z_get (ref := "Shedwheel") (v := .ref a1) C hin_X2_feederOf_X2 hL0 hF0 rfl 0 (by decide) (by decide +kernel) (fun _ h9 => h9) rfl dX2_feederOf_26 ?_
      refine z_iload_n C dX2_feederOf_29 rfl 1 rfl ?_
      have hlt : k < n := by omega
      obtain ⟨hLe, hGe, hnn, hcap⟩ : ea ∈ L ∧ F ea = .inl (G.2.2.1, nn, .inr (.inr (.inr (.inr fe)))) ∧ n ≤ nn ∧ (nn = 10 ∨ nn = 15) := by
        rcases hFe with ⟨h9, -⟩ | h9
        · omega
        · exact h9
      refine z_callV (As := [.int (nI k)]) (st := []) (mc := 0) (ms := 0) C hL1 hF1 rfl (c_Jx4a65c_get_915e3 l hlst G L F a1 mo ea n hL1 hF1 nn k (ad k) fe hLe hGe (by omega) (by omega) (hfe k (by omega)) (by omega) (by omega)) (cwV 1 C.1.2.2.2.2 gX2_feederOf_Jx4a65c_get_915e3 rfl rfl rfl (by decide +kernel) ⟨Nat.le_of_ble_eq_true rfl, Nat.le_of_ble_eq_true rfl⟩) rfl (Nat.le_of_ble_eq_true rfl) ⟨Nat.le_of_ble_eq_true rfl, Nat.le_of_ble_eq_true rfl⟩ dX2_feederOf_30 (z_p ?_)
      refine z_stk (st' := [.ref ((ad k))]) rfl ?_
      have hLa := (hFd k hlt).1
      have hFa : F (ad k) = fdE (fd k) := (hFd k hlt).2.1
      have hOk : fOk now (fd k) := (hFd k hlt).2.2.1
      obtain ⟨u1, u2, u3, u4, u5, u6, u7, u8⟩ := id hOk
      refine z_castX0 C hLa hFa (by decide +kernel) dX2_feederOf_33 ?_
      refine z_aret C rfl (by first | exact Or.inl ⟨_, rfl⟩ | exact Or.inr ⟨_, rfl⟩) (by decide) (by decide) dX2_feederOf_36 ?_
      exact ⟨k, hkn, hxk, rfl, rfl, rfl⟩
    · -- 12 not taken
      refine z_throw (cls := "java/lang/IndexOutOfBoundsException") (text := "no such feeder") (ik := 151) (is := 153) (ic := 155) C rfl (by decide +kernel) (by decide +kernel) (by decide +kernel) (by decide +kernel) ["java/lang/RuntimeException", "java/lang/Exception"] (by decide +kernel) (by decide +kernel) (by decide +kernel) (by decide +kernel) (by decide +kernel) dX2_feederOf_15 dX2_feederOf_18 dX2_feederOf_19 dX2_feederOf_21 dX2_feederOf_24 hout (Nat.le_of_ble_eq_true rfl) (Nat.le_of_ble_eq_true rfl) (Nat.le_of_ble_eq_true rfl) (Nat.le_of_ble_eq_true rfl) (Nat.le_of_ble_eq_true rfl) (Nat.le_of_ble_eq_true rfl) ?_
      exact ⟨rfl, rfl, rfl, fun h9 => (by obtain ⟨g1, g2⟩ := h9; omega)⟩

set_option maxRecDepth 100000 in
theorem hin_X2_hour_X2 : ∀ w ∈ u_ws RX2 TX2 4, w ∈ wsX2_hour := by decide +kernel
set_option maxHeartbeats 4000000 in
set_option maxRecDepth 100000 in
theorem c_X2_hour (l : Launch) (hlst : l.stackTraces = false) (G : zGt) (L : List Nat) (F : Nat → va_E) (M : Nat → Prop) (a0 a1 a2 b4 b5 b6 b7 : Nat) (ad : Nat → Nat) (n now sl : Nat) (fd : Nat → FdT) (hco : zCo G M L F a0 a1 a2 b4 b5 b6 b7 ad n now sl fd)  : zM l yX2_hour wsX2_hour 1 24 0 0 G L F [.ref a0] (fun rv L1 F1 => rv = some (.int (nI now)) ∧ L1 = L ∧ F1 = F) := by
  obtain ⟨⟨hL0, hL1, hL2, hL4, hL5, hL6, hL7⟩, hF0, ⟨mo, ea, nn, fe, hF1, hFe, hfe, hMe⟩, hSr, hNb, hFd, hIj, ⟨hn, hnow, hsl⟩, hM0, hM1, hM2, hM4, hM5, hM6, hM7⟩ := id hco
  refine z_of (cc := cX2_hour) (nL := 1) (ret := (some .int)) (own := RX2) hlst (by decide +kernel) rfl rfl (Nat.le_of_ble_eq_true rfl) ?_
  intro p e s m below meth c A hnm C
  refine z_lvs (lv' := [(0, .ref a0)]) rfl ?_
  refine z_aload_n C dX2_hour_0 rfl 0 rfl ?_
  refine z_get (ref := "Shedwheel") (v := .int (nI now)) C hin_X2_hour_X2 hL0 hF0 rfl 2 (by decide) (by decide +kernel) (fun _ h9 => h9) rfl dX2_hour_1 ?_
  refine z_iret0 C rfl rfl (by decide) (by decide) dX2_hour_4 ?_
  exact ⟨rfl, rfl, rfl⟩

set_option maxRecDepth 100000 in
theorem hin_X2_feeders_X2 : ∀ w ∈ u_ws RX2 TX2 4, w ∈ wsX2_feeders := by decide +kernel
set_option maxHeartbeats 4000000 in
set_option maxRecDepth 100000 in
theorem c_X2_feeders (l : Launch) (hlst : l.stackTraces = false) (G : zGt) (L : List Nat) (F : Nat → va_E) (M : Nat → Prop) (a0 a1 a2 b4 b5 b6 b7 : Nat) (ad : Nat → Nat) (n now sl : Nat) (fd : Nat → FdT) (hco : zCo G M L F a0 a1 a2 b4 b5 b6 b7 ad n now sl fd)  : zM l yX2_feeders wsX2_feeders 2 44 0 0 G L F [.ref a0] (fun rv L1 F1 => rv = some (.int (nI n)) ∧ L1 = L ∧ F1 = F) := by
  obtain ⟨⟨hL0, hL1, hL2, hL4, hL5, hL6, hL7⟩, hF0, ⟨mo, ea, nn, fe, hF1, hFe, hfe, hMe⟩, hSr, hNb, hFd, hIj, ⟨hn, hnow, hsl⟩, hM0, hM1, hM2, hM4, hM5, hM6, hM7⟩ := id hco
  refine z_of (cc := cX2_feeders) (nL := 1) (ret := (some .int)) (own := RX2) hlst (by decide +kernel) rfl rfl (Nat.le_of_ble_eq_true rfl) ?_
  intro p e s m below meth c A hnm C
  refine z_lvs (lv' := [(0, .ref a0)]) rfl ?_
  refine z_aload_n C dX2_feeders_0 rfl 0 rfl ?_
  refine z_get (ref := "Shedwheel") (v := .ref a1) C hin_X2_feeders_X2 hL0 hF0 rfl 0 (by decide) (by decide +kernel) (fun _ h9 => h9) rfl dX2_feeders_1 ?_
  refine z_callV (As := []) (st := []) (mc := 0) (ms := 0) C hL1 hF1 rfl (c_Jx4a65c_size_8abf5 l hlst G L F a1 mo ea n hL1 hF1 ) (cwV 0 C.1.2.2.2.2 gX2_feeders_Jx4a65c_size_8abf5 rfl rfl rfl (by decide +kernel) ⟨Nat.le_of_ble_eq_true rfl, Nat.le_of_ble_eq_true rfl⟩) rfl (Nat.le_of_ble_eq_true rfl) ⟨Nat.le_of_ble_eq_true rfl, Nat.le_of_ble_eq_true rfl⟩ dX2_feeders_4 (z_p ?_)
  refine z_stk (st' := [.int (nI n)]) rfl ?_
  refine z_iret0 C rfl rfl (by decide) (by decide) dX2_feeders_7 ?_
  exact ⟨rfl, rfl, rfl⟩

set_option maxRecDepth 100000 in
theorem hin_X2_isCut_X0 : ∀ w ∈ u_ws RX0 TX0 7, w ∈ wsX2_isCut := by decide +kernel
set_option maxHeartbeats 4000000 in
set_option maxRecDepth 100000 in
theorem c_X2_isCut (l : Launch) (hlst : l.stackTraces = false) (G : zGt) (L : List Nat) (F : Nat → va_E) (M : Nat → Prop) (a0 a1 a2 b4 b5 b6 b7 : Nat) (ad : Nat → Nat) (n now sl : Nat) (fd : Nat → FdT) (hco : zCo G M L F a0 a1 a2 b4 b5 b6 b7 ad n now sl fd) (x : Int32) : zX l yX2_isCut wsX2_isCut 11 175 1 6 G L F [.ref a0, .int x] (fun rv L1 F1 => ∃ k : Nat, k < n ∧ x = nI k ∧ rv = some (.int (nI (fOf (fd k)))) ∧ L1 = L ∧ F1 = F) (fun E L1 F1 => L1 = L ∧ F1 = F ∧ E = "java/lang/IndexOutOfBoundsException" ∧ ¬ zIx n x) := by
  obtain ⟨⟨hL0, hL1, hL2, hL4, hL5, hL6, hL7⟩, hF0, ⟨mo, ea, nn, fe, hF1, hFe, hfe, hMe⟩, hSr, hNb, hFd, hIj, ⟨hn, hnow, hsl⟩, hM0, hM1, hM2, hM4, hM5, hM6, hM7⟩ := id hco
  refine z_ofX (cc := cX2_isCut) (nL := 2) (ret := (some .boolean)) (own := RX2) hlst (by decide +kernel) rfl rfl (Nat.le_of_ble_eq_true rfl) ?_
  intro p e s m below meth c A hout C
  refine z_lvs (lv' := [(0, .ref a0), (1, .int x)]) rfl ?_
  refine z_aload_n C dX2_isCut_0 rfl 0 rfl ?_
  refine z_iload_n C dX2_isCut_1 rfl 1 rfl ?_
  refine z_callVX (As := [.int x]) (st := []) (mc := 1) (ms := 6) C hL0 hF0 rfl (c_X2_feederOf l hlst G L F M a0 a1 a2 b4 b5 b6 b7 ad n now sl fd hco x) (cwV 1 C.1.2.2.2.2 gX2_isCut_X2_feederOf rfl rfl rfl (by decide +kernel) ⟨Nat.le_of_ble_eq_true rfl, Nat.le_of_ble_eq_true rfl⟩) rfl (Nat.le_of_ble_eq_true rfl) ⟨Nat.le_of_ble_eq_true rfl, Nat.le_of_ble_eq_true rfl⟩ dX2_isCut_2 (z_xo C hout (Nat.le_of_ble_eq_true rfl) (Nat.le_of_ble_eq_true rfl) (fun E9 L9 F9 hx => ⟨hx.1, hx.2.1, hx.2.2⟩)) (fun rv9 L9 F9 hp9 => ?_)
  obtain ⟨k, hlt, hxk, e91, e92, e93⟩ := hp9
  rw [e91, e92, e93]
  refine z_stk (st' := [.ref ((ad k))]) rfl ?_
  have hLa := (hFd k hlt).1
  have hFa : F (ad k) = fdE (fd k) := (hFd k hlt).2.1
  have hOk : fOk now (fd k) := (hFd k hlt).2.2.1
  obtain ⟨u1, u2, u3, u4, u5, u6, u7, u8⟩ := id hOk
  refine z_getN (host := RX2) (ref := "Shedwheel$Feeder") (v := .int (nI (fOf (fd k)))) C hin_X2_isCut_X0 hLa hFa rfl 3 (by decide) (by decide +kernel) (fun _ h9 => h9) rfl dX2_isCut_5 ?_
  refine z_iret C rfl (zb_n (b := fOf (fd k)) (by omega)) (by decide) (by decide) dX2_isCut_8 ?_
  exact ⟨k, hlt, hxk, rfl, rfl, rfl⟩

set_option maxHeartbeats 4000000 in
set_option maxRecDepth 100000 in
theorem c_X2_takes (l : Launch) (hlst : l.stackTraces = false) (G : zGt) (L : List Nat) (F : Nat → va_E) (M : Nat → Prop) (a0 a1 a2 b4 b5 b6 b7 : Nat) (ad : Nat → Nat) (n now sl : Nat) (fd : Nat → FdT) (hco : zCo G M L F a0 a1 a2 b4 b5 b6 b7 ad n now sl fd) (x : Int32) : zX l yX2_takes wsX2_takes 11 175 1 6 G L F [.ref a0, .int x] (fun rv L1 F1 => ∃ k : Nat, k < n ∧ x = nI k ∧ rv = some (.int (nI (fTk (fd k)))) ∧ L1 = L ∧ F1 = F) (fun E L1 F1 => L1 = L ∧ F1 = F ∧ E = "java/lang/IndexOutOfBoundsException" ∧ ¬ zIx n x) := by
  obtain ⟨⟨hL0, hL1, hL2, hL4, hL5, hL6, hL7⟩, hF0, ⟨mo, ea, nn, fe, hF1, hFe, hfe, hMe⟩, hSr, hNb, hFd, hIj, ⟨hn, hnow, hsl⟩, hM0, hM1, hM2, hM4, hM5, hM6, hM7⟩ := id hco
  refine z_ofX (cc := cX2_takes) (nL := 2) (ret := (some .int)) (own := RX2) hlst (by decide +kernel) rfl rfl (Nat.le_of_ble_eq_true rfl) ?_
  intro p e s m below meth c A hout C
  refine z_lvs (lv' := [(0, .ref a0), (1, .int x)]) rfl ?_
  refine z_aload_n C dX2_takes_0 rfl 0 rfl ?_
  refine z_iload_n C dX2_takes_1 rfl 1 rfl ?_
  refine z_callVX (As := [.int x]) (st := []) (mc := 1) (ms := 6) C hL0 hF0 rfl (c_X2_feederOf l hlst G L F M a0 a1 a2 b4 b5 b6 b7 ad n now sl fd hco x) (cwV 1 C.1.2.2.2.2 gX2_takes_X2_feederOf rfl rfl rfl (by decide +kernel) ⟨Nat.le_of_ble_eq_true rfl, Nat.le_of_ble_eq_true rfl⟩) rfl (Nat.le_of_ble_eq_true rfl) ⟨Nat.le_of_ble_eq_true rfl, Nat.le_of_ble_eq_true rfl⟩ dX2_takes_2 (z_xo C hout (Nat.le_of_ble_eq_true rfl) (Nat.le_of_ble_eq_true rfl) (fun E9 L9 F9 hx => ⟨hx.1, hx.2.1, hx.2.2⟩)) (fun rv9 L9 F9 hp9 => ?_)
  obtain ⟨k, hlt, hxk, e91, e92, e93⟩ := hp9
  rw [e91, e92, e93]
  refine z_stk (st' := [.ref ((ad k))]) rfl ?_
  have hLa := (hFd k hlt).1
  have hFa : F (ad k) = fdE (fd k) := (hFd k hlt).2.1
  have hOk : fOk now (fd k) := (hFd k hlt).2.2.1
  obtain ⟨u1, u2, u3, u4, u5, u6, u7, u8⟩ := id hOk
  refine z_callVN (As := []) (st := []) (mc := 0) (ms := 0) C hLa hFa rfl (c_X0_taken l hlst G L F (ad k) (fSg (fd k)) (fMw (fd k)) (fCr (fd k)) (fOf (fd k)) (fHo (fd k)) (fTh (fd k)) (fCo (fd k)) hLa hFa (by omega) (by omega) (by omega)) ⟨va_cnB 0 C.1.2.2.2.2 gX2_takes_X0_taken_n112 rfl rfl rfl (z_nl (host := RX2) C (by decide +kernel)) (C.1.2.2.2.2 _ (show Cond.initialized RX0 ∈ _ from (by decide +kernel))) (by decide +kernel) ⟨Nat.le_of_ble_eq_true rfl, Nat.le_of_ble_eq_true rfl⟩, C.1.2.2.2.2 _ (show Cond.instanceMethod yX0_taken ∈ _ from (by decide +kernel)), C.1.2.2.2.2 _ (show Cond.selects RX0 yX0_taken yX0_taken ∈ _ from (by decide +kernel))⟩ rfl (Nat.le_of_ble_eq_true rfl) ⟨Nat.le_of_ble_eq_true rfl, Nat.le_of_ble_eq_true rfl⟩ dX2_takes_5 (z_p ?_)
  refine z_stk (st' := [.int (nI (tkV (fMw (fd k)) (fOf (fd k)) (fCo (fd k))))]) rfl ?_
  refine z_iret C rfl rfl (by decide) (by decide) dX2_takes_8 ?_
  exact ⟨k, hlt, hxk, rfl, rfl, rfl⟩

set_option maxRecDepth 100000 in
theorem hin_X2_cold_X0 : ∀ w ∈ u_ws RX0 TX0 7, w ∈ wsX2_cold := by decide +kernel
set_option maxHeartbeats 4000000 in
set_option maxRecDepth 100000 in
theorem c_X2_cold (l : Launch) (hlst : l.stackTraces = false) (G : zGt) (L : List Nat) (F : Nat → va_E) (M : Nat → Prop) (a0 a1 a2 b4 b5 b6 b7 : Nat) (ad : Nat → Nat) (n now sl : Nat) (fd : Nat → FdT) (hco : zCo G M L F a0 a1 a2 b4 b5 b6 b7 ad n now sl fd) (x : Int32) : zX l yX2_cold wsX2_cold 11 175 1 6 G L F [.ref a0, .int x] (fun rv L1 F1 => ∃ k : Nat, k < n ∧ x = nI k ∧ rv = some (.int (nI (fCo (fd k)))) ∧ L1 = L ∧ F1 = F) (fun E L1 F1 => L1 = L ∧ F1 = F ∧ E = "java/lang/IndexOutOfBoundsException" ∧ ¬ zIx n x) := by
  obtain ⟨⟨hL0, hL1, hL2, hL4, hL5, hL6, hL7⟩, hF0, ⟨mo, ea, nn, fe, hF1, hFe, hfe, hMe⟩, hSr, hNb, hFd, hIj, ⟨hn, hnow, hsl⟩, hM0, hM1, hM2, hM4, hM5, hM6, hM7⟩ := id hco
  refine z_ofX (cc := cX2_cold) (nL := 2) (ret := (some .int)) (own := RX2) hlst (by decide +kernel) rfl rfl (Nat.le_of_ble_eq_true rfl) ?_
  intro p e s m below meth c A hout C
  refine z_lvs (lv' := [(0, .ref a0), (1, .int x)]) rfl ?_
  refine z_aload_n C dX2_cold_0 rfl 0 rfl ?_
  refine z_iload_n C dX2_cold_1 rfl 1 rfl ?_
  refine z_callVX (As := [.int x]) (st := []) (mc := 1) (ms := 6) C hL0 hF0 rfl (c_X2_feederOf l hlst G L F M a0 a1 a2 b4 b5 b6 b7 ad n now sl fd hco x) (cwV 1 C.1.2.2.2.2 gX2_cold_X2_feederOf rfl rfl rfl (by decide +kernel) ⟨Nat.le_of_ble_eq_true rfl, Nat.le_of_ble_eq_true rfl⟩) rfl (Nat.le_of_ble_eq_true rfl) ⟨Nat.le_of_ble_eq_true rfl, Nat.le_of_ble_eq_true rfl⟩ dX2_cold_2 (z_xo C hout (Nat.le_of_ble_eq_true rfl) (Nat.le_of_ble_eq_true rfl) (fun E9 L9 F9 hx => ⟨hx.1, hx.2.1, hx.2.2⟩)) (fun rv9 L9 F9 hp9 => ?_)
  obtain ⟨k, hlt, hxk, e91, e92, e93⟩ := hp9
  rw [e91, e92, e93]
  refine z_stk (st' := [.ref ((ad k))]) rfl ?_
  have hLa := (hFd k hlt).1
  have hFa : F (ad k) = fdE (fd k) := (hFd k hlt).2.1
  have hOk : fOk now (fd k) := (hFd k hlt).2.2.1
  obtain ⟨u1, u2, u3, u4, u5, u6, u7, u8⟩ := id hOk
  refine z_getN (host := RX2) (ref := "Shedwheel$Feeder") (v := .int (nI (fCo (fd k)))) C hin_X2_cold_X0 hLa hFa rfl 6 (by decide) (by decide +kernel) (fun _ h9 => h9) rfl dX2_cold_5 ?_
  refine z_iret C rfl rfl (by decide) (by decide) dX2_cold_8 ?_
  exact ⟨k, hlt, hxk, rfl, rfl, rfl⟩

set_option maxRecDepth 100000 in
theorem hin_X2_hours_X0 : ∀ w ∈ u_ws RX0 TX0 7, w ∈ wsX2_hours := by decide +kernel
set_option maxHeartbeats 4000000 in
set_option maxRecDepth 100000 in
theorem c_X2_hours (l : Launch) (hlst : l.stackTraces = false) (G : zGt) (L : List Nat) (F : Nat → va_E) (M : Nat → Prop) (a0 a1 a2 b4 b5 b6 b7 : Nat) (ad : Nat → Nat) (n now sl : Nat) (fd : Nat → FdT) (hco : zCo G M L F a0 a1 a2 b4 b5 b6 b7 ad n now sl fd) (x : Int32) : zX l yX2_hours wsX2_hours 11 175 1 6 G L F [.ref a0, .int x] (fun rv L1 F1 => ∃ k : Nat, k < n ∧ x = nI k ∧ rv = some (.int (nI (fHo (fd k)))) ∧ L1 = L ∧ F1 = F) (fun E L1 F1 => L1 = L ∧ F1 = F ∧ E = "java/lang/IndexOutOfBoundsException" ∧ ¬ zIx n x) := by
  obtain ⟨⟨hL0, hL1, hL2, hL4, hL5, hL6, hL7⟩, hF0, ⟨mo, ea, nn, fe, hF1, hFe, hfe, hMe⟩, hSr, hNb, hFd, hIj, ⟨hn, hnow, hsl⟩, hM0, hM1, hM2, hM4, hM5, hM6, hM7⟩ := id hco
  refine z_ofX (cc := cX2_hours) (nL := 2) (ret := (some .int)) (own := RX2) hlst (by decide +kernel) rfl rfl (Nat.le_of_ble_eq_true rfl) ?_
  intro p e s m below meth c A hout C
  refine z_lvs (lv' := [(0, .ref a0), (1, .int x)]) rfl ?_
  refine z_aload_n C dX2_hours_0 rfl 0 rfl ?_
  refine z_iload_n C dX2_hours_1 rfl 1 rfl ?_
  refine z_callVX (As := [.int x]) (st := []) (mc := 1) (ms := 6) C hL0 hF0 rfl (c_X2_feederOf l hlst G L F M a0 a1 a2 b4 b5 b6 b7 ad n now sl fd hco x) (cwV 1 C.1.2.2.2.2 gX2_hours_X2_feederOf rfl rfl rfl (by decide +kernel) ⟨Nat.le_of_ble_eq_true rfl, Nat.le_of_ble_eq_true rfl⟩) rfl (Nat.le_of_ble_eq_true rfl) ⟨Nat.le_of_ble_eq_true rfl, Nat.le_of_ble_eq_true rfl⟩ dX2_hours_2 (z_xo C hout (Nat.le_of_ble_eq_true rfl) (Nat.le_of_ble_eq_true rfl) (fun E9 L9 F9 hx => ⟨hx.1, hx.2.1, hx.2.2⟩)) (fun rv9 L9 F9 hp9 => ?_)
  obtain ⟨k, hlt, hxk, e91, e92, e93⟩ := hp9
  rw [e91, e92, e93]
  refine z_stk (st' := [.ref ((ad k))]) rfl ?_
  have hLa := (hFd k hlt).1
  have hFa : F (ad k) = fdE (fd k) := (hFd k hlt).2.1
  have hOk : fOk now (fd k) := (hFd k hlt).2.2.1
  obtain ⟨u1, u2, u3, u4, u5, u6, u7, u8⟩ := id hOk
  refine z_getN (host := RX2) (ref := "Shedwheel$Feeder") (v := .int (nI (fHo (fd k)))) C hin_X2_hours_X0 hLa hFa rfl 4 (by decide) (by decide +kernel) (fun _ h9 => h9) rfl dX2_hours_5 ?_
  refine z_iret C rfl rfl (by decide) (by decide) dX2_hours_8 ?_
  exact ⟨k, hlt, hxk, rfl, rfl, rfl⟩

set_option maxRecDepth 100000 in
theorem hin_X2_load_X2 : ∀ w ∈ u_ws RX2 TX2 4, w ∈ wsX2_load := by decide +kernel
set_option maxHeartbeats 4000000 in
set_option maxRecDepth 100000 in
theorem c_X2_load (l : Launch) (hlst : l.stackTraces = false) (G : zGt) (L : List Nat) (F : Nat → va_E) (M : Nat → Prop) (a0 a1 a2 b4 b5 b6 b7 : Nat) (ad : Nat → Nat) (n now sl : Nat) (fd : Nat → FdT) (hco : zCo G M L F a0 a1 a2 b4 b5 b6 b7 ad n now sl fd)  : zM l yX2_load wsX2_load 10 154 0 0 G L F [.ref a0] (fun rv L1 F1 => rv = some (.int (nI (smV (fun j => fTk (fd j)) n))) ∧ L1 = L ∧ F1 = F) := by
  obtain ⟨⟨hL0, hL1, hL2, hL4, hL5, hL6, hL7⟩, hF0, ⟨mo, ea, nn, fe, hF1, hFe, hfe, hMe⟩, hSr, hNb, hFd, hIj, ⟨hn, hnow, hsl⟩, hM0, hM1, hM2, hM4, hM5, hM6, hM7⟩ := id hco
  refine z_of (cc := cX2_load) (nL := 3) (ret := (some .int)) (own := RX2) hlst (by decide +kernel) rfl rfl (Nat.le_of_ble_eq_true rfl) ?_
  intro p e s m below meth c A hnm C
  refine z_lvs (lv' := [(0, .ref a0)]) rfl ?_
  refine z_iconst C (nI 0) dX2_load_0 (by decide) ?_
  refine z_istore_n (lv' := [(1, .int (nI 0)), (0, .ref a0)]) C dX2_load_1 rfl (by decide) rfl ?_
  refine z_iconst C (nI 0) dX2_load_2 (by decide) ?_
  refine z_istore_n (lv' := [(2, .int (nI 0)), (1, .int (nI 0)), (0, .ref a0)]) C dX2_load_3 rfl (by decide) rfl ?_
  refine z_lvs (lv' := [(2, .int (nI 0)), (1, .int (nI (smV (fun j => fTk (fd j)) 0))), (0, .ref a0)]) rfl ?_
  refine z_sub (lv' := [(0, .ref a0), (1, .int (nI (smV (fun j => fTk (fd j)) 0))), (2, .int (nI 0))]) [2, 1, 0] rfl ?_
  have lp4 : ∀ (N9 : Nat) (k : Nat) (hk : k ≤ n) (h9 : n - k < N9), zW p l e { frames := 10, cells := 0, slots := 0, locals := 154 } s m [.ref a0].toArray below meth c 3 G A (MQ below (zQ G (fun rv L1 F1 => rv = some (.int (nI (smV (fun j => fTk (fd j)) n))) ∧ L1 = L ∧ F1 = F) A) [.ref a0].toArray s 0 0 A) 0 0 L F 4 [(0, .ref a0), (1, .int (nI (smV (fun j => fTk (fd j)) k))), (2, .int (nI k))] [] := by
    intro N9
    induction N9 with
    | zero => intro k hk h9; exact absurd h9 (Nat.not_lt_zero _)
    | succ N9 ih4 =>
      intro k hk hN4
      refine z_iload_n C dX2_load_4 rfl 2 rfl ?_
      refine z_aload_n C dX2_load_5 rfl 0 rfl ?_
      refine z_get (ref := "Shedwheel") (v := .ref a1) C hin_X2_load_X2 hL0 hF0 rfl 0 (by decide) (by decide +kernel) (fun _ h9 => h9) rfl dX2_load_6 ?_
      refine z_callV (As := []) (st := [.int (nI k)]) (mc := 0) (ms := 0) C hL1 hF1 rfl (c_Jx4a65c_size_8abf5 l hlst G L F a1 mo ea n hL1 hF1 ) (cwV 0 C.1.2.2.2.2 gX2_load_Jx4a65c_size_8abf5 rfl rfl rfl (by decide +kernel) ⟨Nat.le_of_ble_eq_true rfl, Nat.le_of_ble_eq_true rfl⟩) rfl (Nat.le_of_ble_eq_true rfl) ⟨Nat.le_of_ble_eq_true rfl, Nat.le_of_ble_eq_true rfl⟩ dX2_load_9 (z_p ?_)
      refine z_stk (st' := [.int (nI n), .int (nI k)]) rfl ?_
      refine z_icmp_ge C 38 (((n : Nat) : Int) ≤ ((k : Nat) : Int)) (zi_le (zi_N (n := n) (by omega)) (zi_N (n := k) (by omega))) dX2_load_12 (by decide) (fun c1_ => ?_) (fun c1_ => ?_)
      · -- 12 taken
        refine z_iload_n C dX2_load_38 rfl 1 rfl ?_
        refine z_iret0 C rfl rfl (by decide) (by decide) dX2_load_39 ?_
        obtain rfl : n = k := by omega
        exact ⟨rfl, rfl, rfl⟩
      · -- 12 not taken
        refine z_iload_n C dX2_load_15 rfl 1 rfl ?_
        refine z_aload_n C dX2_load_16 rfl 0 rfl ?_
        refine z_get (ref := "Shedwheel") (v := .ref a1) C hin_X2_load_X2 hL0 hF0 rfl 0 (by decide) (by decide +kernel) (fun _ h9 => h9) rfl dX2_load_17 ?_
        refine z_iload_n C dX2_load_20 rfl 2 rfl ?_
        have hlt : k < n := by omega
        obtain ⟨hLe, hGe, hnn, hcap⟩ : ea ∈ L ∧ F ea = .inl (G.2.2.1, nn, .inr (.inr (.inr (.inr fe)))) ∧ n ≤ nn ∧ (nn = 10 ∨ nn = 15) := by
          rcases hFe with ⟨h9, -⟩ | h9
          · omega
          · exact h9
        refine z_callV (As := [.int (nI k)]) (st := [.int (nI (smV (fun j => fTk (fd j)) k))]) (mc := 0) (ms := 0) C hL1 hF1 rfl (c_Jx4a65c_get_915e3 l hlst G L F a1 mo ea n hL1 hF1 nn k (ad k) fe hLe hGe (by omega) (by omega) (hfe k (by omega)) (by omega) (by omega)) (cwV 1 C.1.2.2.2.2 gX2_load_Jx4a65c_get_915e3 rfl rfl rfl (by decide +kernel) ⟨Nat.le_of_ble_eq_true rfl, Nat.le_of_ble_eq_true rfl⟩) rfl (Nat.le_of_ble_eq_true rfl) ⟨Nat.le_of_ble_eq_true rfl, Nat.le_of_ble_eq_true rfl⟩ dX2_load_21 (z_p ?_)
        refine z_stk (st' := [.ref ((ad k)), .int (nI (smV (fun j => fTk (fd j)) k))]) rfl ?_
        have hLa := (hFd k hlt).1
        have hFa : F (ad k) = fdE (fd k) := (hFd k hlt).2.1
        have hOk : fOk now (fd k) := (hFd k hlt).2.2.1
        obtain ⟨u1, u2, u3, u4, u5, u6, u7, u8⟩ := id hOk
        refine z_castX0 C hLa hFa (by decide +kernel) dX2_load_24 ?_
        refine z_callVN (As := []) (st := [.int (nI (smV (fun j => fTk (fd j)) k))]) (mc := 0) (ms := 0) C hLa hFa rfl (c_X0_taken l hlst G L F (ad k) (fSg (fd k)) (fMw (fd k)) (fCr (fd k)) (fOf (fd k)) (fHo (fd k)) (fTh (fd k)) (fCo (fd k)) hLa hFa (by omega) (by omega) (by omega)) ⟨va_cnB 0 C.1.2.2.2.2 gX2_load_X0_taken_n112 rfl rfl rfl (z_nl (host := RX2) C (by decide +kernel)) (C.1.2.2.2.2 _ (show Cond.initialized RX0 ∈ _ from (by decide +kernel))) (by decide +kernel) ⟨Nat.le_of_ble_eq_true rfl, Nat.le_of_ble_eq_true rfl⟩, C.1.2.2.2.2 _ (show Cond.instanceMethod yX0_taken ∈ _ from (by decide +kernel)), C.1.2.2.2.2 _ (show Cond.selects RX0 yX0_taken yX0_taken ∈ _ from (by decide +kernel))⟩ rfl (Nat.le_of_ble_eq_true rfl) ⟨Nat.le_of_ble_eq_true rfl, Nat.le_of_ble_eq_true rfl⟩ dX2_load_27 (z_p ?_)
        refine z_stk (st' := [.int (nI (tkV (fMw (fd k)) (fOf (fd k)) (fCo (fd k)))), .int (nI (smV (fun j => fTk (fd j)) k))]) rfl ?_
        refine z_iadd C (nI (smV (fun j => fTk (fd j)) k + tkV (fMw (fd k)) (fOf (fd k)) (fCo (fd k)))) dX2_load_30 (nI_add (smV (fun j => fTk (fd j)) k) (tkV (fMw (fd k)) (fOf (fd k)) (fCo (fd k)))) ?_
        refine z_istore_n (lv' := [(1, .int (nI (smV (fun j => fTk (fd j)) k + tkV (fMw (fd k)) (fOf (fd k)) (fCo (fd k))))), (0, .ref a0), (2, .int (nI k))]) C dX2_load_31 rfl (by decide) rfl ?_
        refine z_iinc (v := nI (k + 1)) (lv' := [(2, .int (nI (k + 1))), (1, .int (nI (smV (fun j => fTk (fd j)) k + tkV (fMw (fd k)) (fOf (fd k)) (fCo (fd k))))), (0, .ref a0)]) C dX2_load_32 2 rfl (nI_add k 1) (by decide) rfl ?_
        refine z_goto C 4 dX2_load_35 (by decide) ?_
        refine z_lvs (lv' := [(2, .int (nI (k + 1))), (1, .int (nI (smV (fun j => fTk (fd j)) (k + 1)))), (0, .ref a0)]) rfl ?_
        refine z_sub (lv' := [(0, .ref a0), (1, .int (nI (smV (fun j => fTk (fd j)) (k + 1)))), (2, .int (nI (k + 1)))]) [2, 1, 0] rfl ?_
        exact ih4 (k + 1) (by omega) (by omega)
  exact lp4 _ 0 (Nat.zero_le _) (Nat.lt_succ_self _)

set_option maxRecDepth 100000 in
theorem hin_X2_loadRestored_X2 : ∀ w ∈ u_ws RX2 TX2 4, w ∈ wsX2_loadRestored := by decide +kernel
set_option maxHeartbeats 4000000 in
set_option maxRecDepth 100000 in
theorem c_X2_loadRestored (l : Launch) (hlst : l.stackTraces = false) (G : zGt) (L : List Nat) (F : Nat → va_E) (M : Nat → Prop) (a0 a1 a2 b4 b5 b6 b7 : Nat) (ad : Nat → Nat) (n now sl : Nat) (fd : Nat → FdT) (hco : zCo G M L F a0 a1 a2 b4 b5 b6 b7 ad n now sl fd)  : zM l yX2_loadRestored wsX2_loadRestored 10 154 0 0 G L F [.ref a0] (fun rv L1 F1 => rv = some (.int (nI (smV (fun j => fRs (fd j)) n))) ∧ L1 = L ∧ F1 = F) := by
  obtain ⟨⟨hL0, hL1, hL2, hL4, hL5, hL6, hL7⟩, hF0, ⟨mo, ea, nn, fe, hF1, hFe, hfe, hMe⟩, hSr, hNb, hFd, hIj, ⟨hn, hnow, hsl⟩, hM0, hM1, hM2, hM4, hM5, hM6, hM7⟩ := id hco
  refine z_of (cc := cX2_loadRestored) (nL := 3) (ret := (some .int)) (own := RX2) hlst (by decide +kernel) rfl rfl (Nat.le_of_ble_eq_true rfl) ?_
  intro p e s m below meth c A hnm C
  refine z_lvs (lv' := [(0, .ref a0)]) rfl ?_
  refine z_iconst C (nI 0) dX2_loadRestored_0 (by decide) ?_
  refine z_istore_n (lv' := [(1, .int (nI 0)), (0, .ref a0)]) C dX2_loadRestored_1 rfl (by decide) rfl ?_
  refine z_iconst C (nI 0) dX2_loadRestored_2 (by decide) ?_
  refine z_istore_n (lv' := [(2, .int (nI 0)), (1, .int (nI 0)), (0, .ref a0)]) C dX2_loadRestored_3 rfl (by decide) rfl ?_
  refine z_lvs (lv' := [(2, .int (nI 0)), (1, .int (nI (smV (fun j => fRs (fd j)) 0))), (0, .ref a0)]) rfl ?_
  refine z_sub (lv' := [(0, .ref a0), (1, .int (nI (smV (fun j => fRs (fd j)) 0))), (2, .int (nI 0))]) [2, 1, 0] rfl ?_
  have lp4 : ∀ (N9 : Nat) (k : Nat) (hk : k ≤ n) (h9 : n - k < N9), zW p l e { frames := 10, cells := 0, slots := 0, locals := 154 } s m [.ref a0].toArray below meth c 3 G A (MQ below (zQ G (fun rv L1 F1 => rv = some (.int (nI (smV (fun j => fRs (fd j)) n))) ∧ L1 = L ∧ F1 = F) A) [.ref a0].toArray s 0 0 A) 0 0 L F 4 [(0, .ref a0), (1, .int (nI (smV (fun j => fRs (fd j)) k))), (2, .int (nI k))] [] := by
    intro N9
    induction N9 with
    | zero => intro k hk h9; exact absurd h9 (Nat.not_lt_zero _)
    | succ N9 ih4 =>
      intro k hk hN4
      refine z_iload_n C dX2_loadRestored_4 rfl 2 rfl ?_
      refine z_aload_n C dX2_loadRestored_5 rfl 0 rfl ?_
      refine z_get (ref := "Shedwheel") (v := .ref a1) C hin_X2_loadRestored_X2 hL0 hF0 rfl 0 (by decide) (by decide +kernel) (fun _ h9 => h9) rfl dX2_loadRestored_6 ?_
      refine z_callV (As := []) (st := [.int (nI k)]) (mc := 0) (ms := 0) C hL1 hF1 rfl (c_Jx4a65c_size_8abf5 l hlst G L F a1 mo ea n hL1 hF1 ) (cwV 0 C.1.2.2.2.2 gX2_loadRestored_Jx4a65c_size_8abf5 rfl rfl rfl (by decide +kernel) ⟨Nat.le_of_ble_eq_true rfl, Nat.le_of_ble_eq_true rfl⟩) rfl (Nat.le_of_ble_eq_true rfl) ⟨Nat.le_of_ble_eq_true rfl, Nat.le_of_ble_eq_true rfl⟩ dX2_loadRestored_9 (z_p ?_)
      refine z_stk (st' := [.int (nI n), .int (nI k)]) rfl ?_
      refine z_icmp_ge C 38 (((n : Nat) : Int) ≤ ((k : Nat) : Int)) (zi_le (zi_N (n := n) (by omega)) (zi_N (n := k) (by omega))) dX2_loadRestored_12 (by decide) (fun c1_ => ?_) (fun c1_ => ?_)
      · -- 12 taken
        refine z_iload_n C dX2_loadRestored_38 rfl 1 rfl ?_
        refine z_iret0 C rfl rfl (by decide) (by decide) dX2_loadRestored_39 ?_
        obtain rfl : n = k := by omega
        exact ⟨rfl, rfl, rfl⟩
      · -- 12 not taken
        refine z_iload_n C dX2_loadRestored_15 rfl 1 rfl ?_
        refine z_aload_n C dX2_loadRestored_16 rfl 0 rfl ?_
        refine z_get (ref := "Shedwheel") (v := .ref a1) C hin_X2_loadRestored_X2 hL0 hF0 rfl 0 (by decide) (by decide +kernel) (fun _ h9 => h9) rfl dX2_loadRestored_17 ?_
        refine z_iload_n C dX2_loadRestored_20 rfl 2 rfl ?_
        have hlt : k < n := by omega
        obtain ⟨hLe, hGe, hnn, hcap⟩ : ea ∈ L ∧ F ea = .inl (G.2.2.1, nn, .inr (.inr (.inr (.inr fe)))) ∧ n ≤ nn ∧ (nn = 10 ∨ nn = 15) := by
          rcases hFe with ⟨h9, -⟩ | h9
          · omega
          · exact h9
        refine z_callV (As := [.int (nI k)]) (st := [.int (nI (smV (fun j => fRs (fd j)) k))]) (mc := 0) (ms := 0) C hL1 hF1 rfl (c_Jx4a65c_get_915e3 l hlst G L F a1 mo ea n hL1 hF1 nn k (ad k) fe hLe hGe (by omega) (by omega) (hfe k (by omega)) (by omega) (by omega)) (cwV 1 C.1.2.2.2.2 gX2_loadRestored_Jx4a65c_get_915e3 rfl rfl rfl (by decide +kernel) ⟨Nat.le_of_ble_eq_true rfl, Nat.le_of_ble_eq_true rfl⟩) rfl (Nat.le_of_ble_eq_true rfl) ⟨Nat.le_of_ble_eq_true rfl, Nat.le_of_ble_eq_true rfl⟩ dX2_loadRestored_21 (z_p ?_)
        refine z_stk (st' := [.ref ((ad k)), .int (nI (smV (fun j => fRs (fd j)) k))]) rfl ?_
        have hLa := (hFd k hlt).1
        have hFa : F (ad k) = fdE (fd k) := (hFd k hlt).2.1
        have hOk : fOk now (fd k) := (hFd k hlt).2.2.1
        obtain ⟨u1, u2, u3, u4, u5, u6, u7, u8⟩ := id hOk
        refine z_castX0 C hLa hFa (by decide +kernel) dX2_loadRestored_24 ?_
        refine z_callVN (As := []) (st := [.int (nI (smV (fun j => fRs (fd j)) k))]) (mc := 0) (ms := 0) C hLa hFa rfl (c_X0_takenIfRestored l hlst G L F (ad k) (fSg (fd k)) (fMw (fd k)) (fCr (fd k)) (fOf (fd k)) (fHo (fd k)) (fTh (fd k)) (fCo (fd k)) hLa hFa (by omega) (by omega) (by omega) (by omega)) ⟨va_cnB 0 C.1.2.2.2.2 gX2_loadRestored_X0_takenIfRestored_n143 rfl rfl rfl (z_nl (host := RX2) C (by decide +kernel)) (C.1.2.2.2.2 _ (show Cond.initialized RX0 ∈ _ from (by decide +kernel))) (by decide +kernel) ⟨Nat.le_of_ble_eq_true rfl, Nat.le_of_ble_eq_true rfl⟩, C.1.2.2.2.2 _ (show Cond.instanceMethod yX0_takenIfRestored ∈ _ from (by decide +kernel)), C.1.2.2.2.2 _ (show Cond.selects RX0 yX0_takenIfRestored yX0_takenIfRestored ∈ _ from (by decide +kernel))⟩ rfl (Nat.le_of_ble_eq_true rfl) ⟨Nat.le_of_ble_eq_true rfl, Nat.le_of_ble_eq_true rfl⟩ dX2_loadRestored_27 (z_p ?_)
        refine z_stk (st' := [.int (nI (rsV (fMw (fd k)) (fOf (fd k)) (fTh (fd k)) (fCo (fd k)))), .int (nI (smV (fun j => fRs (fd j)) k))]) rfl ?_
        refine z_iadd C (nI (smV (fun j => fRs (fd j)) k + rsV (fMw (fd k)) (fOf (fd k)) (fTh (fd k)) (fCo (fd k)))) dX2_loadRestored_30 (nI_add (smV (fun j => fRs (fd j)) k) (rsV (fMw (fd k)) (fOf (fd k)) (fTh (fd k)) (fCo (fd k)))) ?_
        refine z_istore_n (lv' := [(1, .int (nI (smV (fun j => fRs (fd j)) k + rsV (fMw (fd k)) (fOf (fd k)) (fTh (fd k)) (fCo (fd k))))), (0, .ref a0), (2, .int (nI k))]) C dX2_loadRestored_31 rfl (by decide) rfl ?_
        refine z_iinc (v := nI (k + 1)) (lv' := [(2, .int (nI (k + 1))), (1, .int (nI (smV (fun j => fRs (fd j)) k + rsV (fMw (fd k)) (fOf (fd k)) (fTh (fd k)) (fCo (fd k))))), (0, .ref a0)]) C dX2_loadRestored_32 2 rfl (nI_add k 1) (by decide) rfl ?_
        refine z_goto C 4 dX2_loadRestored_35 (by decide) ?_
        refine z_lvs (lv' := [(2, .int (nI (k + 1))), (1, .int (nI (smV (fun j => fRs (fd j)) (k + 1)))), (0, .ref a0)]) rfl ?_
        refine z_sub (lv' := [(0, .ref a0), (1, .int (nI (smV (fun j => fRs (fd j)) (k + 1)))), (2, .int (nI (k + 1)))]) [2, 1, 0] rfl ?_
        exact ih4 (k + 1) (by omega) (by omega)
  exact lp4 _ 0 (Nat.zero_le _) (Nat.lt_succ_self _)

set_option maxRecDepth 100000 in
theorem hin_X2_takenByReturning_X2 : ∀ w ∈ u_ws RX2 TX2 4, w ∈ wsX2_takenByReturning := by decide +kernel
set_option maxHeartbeats 4000000 in
set_option maxRecDepth 100000 in
theorem c_X2_takenByReturning (l : Launch) (hlst : l.stackTraces = false) (G : zGt) (L : List Nat) (F : Nat → va_E) (M : Nat → Prop) (a0 a1 a2 b4 b5 b6 b7 : Nat) (ad : Nat → Nat) (n now sl : Nat) (fd : Nat → FdT) (hco : zCo G M L F a0 a1 a2 b4 b5 b6 b7 ad n now sl fd)  : zM l yX2_takenByReturning wsX2_takenByReturning 10 154 0 0 G L F [.ref a0] (fun rv L1 F1 => rv = some (.int (nI (smV (fun j => rtV (fd j)) n))) ∧ L1 = L ∧ F1 = F) := by
  obtain ⟨⟨hL0, hL1, hL2, hL4, hL5, hL6, hL7⟩, hF0, ⟨mo, ea, nn, fe, hF1, hFe, hfe, hMe⟩, hSr, hNb, hFd, hIj, ⟨hn, hnow, hsl⟩, hM0, hM1, hM2, hM4, hM5, hM6, hM7⟩ := id hco
  refine z_of (cc := cX2_takenByReturning) (nL := 4) (ret := (some .int)) (own := RX2) hlst (by decide +kernel) rfl rfl (Nat.le_of_ble_eq_true rfl) ?_
  intro p e s m below meth c A hnm C
  refine z_lvs (lv' := [(0, .ref a0)]) rfl ?_
  refine z_iconst C (nI 0) dX2_takenByReturning_0 (by decide) ?_
  refine z_istore_n (lv' := [(1, .int (nI 0)), (0, .ref a0)]) C dX2_takenByReturning_1 rfl (by decide) rfl ?_
  refine z_iconst C (nI 0) dX2_takenByReturning_2 (by decide) ?_
  refine z_istore_n (lv' := [(2, .int (nI 0)), (1, .int (nI 0)), (0, .ref a0)]) C dX2_takenByReturning_3 rfl (by decide) rfl ?_
  refine z_lvs (lv' := [(2, .int (nI 0)), (1, .int (nI (smV (fun j => rtV (fd j)) 0))), (0, .ref a0)]) rfl ?_
  refine z_sub (lv' := [(0, .ref a0), (1, .int (nI (smV (fun j => rtV (fd j)) 0))), (2, .int (nI 0))]) [2, 1, 0] rfl ?_
  have lp4 : ∀ (N9 : Nat) (k : Nat) (hk : k ≤ n) (h9 : n - k < N9), zW p l e { frames := 10, cells := 0, slots := 0, locals := 154 } s m [.ref a0].toArray below meth c 4 G A (MQ below (zQ G (fun rv L1 F1 => rv = some (.int (nI (smV (fun j => rtV (fd j)) n))) ∧ L1 = L ∧ F1 = F) A) [.ref a0].toArray s 0 0 A) 0 0 L F 4 [(0, .ref a0), (1, .int (nI (smV (fun j => rtV (fd j)) k))), (2, .int (nI k))] [] := by
    intro N9
    induction N9 with
    | zero => intro k hk h9; exact absurd h9 (Nat.not_lt_zero _)
    | succ N9 ih4 =>
      intro k hk hN4
      refine z_iload_n C dX2_takenByReturning_4 rfl 2 rfl ?_
      refine z_aload_n C dX2_takenByReturning_5 rfl 0 rfl ?_
      refine z_get (ref := "Shedwheel") (v := .ref a1) C hin_X2_takenByReturning_X2 hL0 hF0 rfl 0 (by decide) (by decide +kernel) (fun _ h9 => h9) rfl dX2_takenByReturning_6 ?_
      refine z_callV (As := []) (st := [.int (nI k)]) (mc := 0) (ms := 0) C hL1 hF1 rfl (c_Jx4a65c_size_8abf5 l hlst G L F a1 mo ea n hL1 hF1 ) (cwV 0 C.1.2.2.2.2 gX2_takenByReturning_Jx4a65c_size_8abf5 rfl rfl rfl (by decide +kernel) ⟨Nat.le_of_ble_eq_true rfl, Nat.le_of_ble_eq_true rfl⟩) rfl (Nat.le_of_ble_eq_true rfl) ⟨Nat.le_of_ble_eq_true rfl, Nat.le_of_ble_eq_true rfl⟩ dX2_takenByReturning_9 (z_p ?_)
      refine z_stk (st' := [.int (nI n), .int (nI k)]) rfl ?_
      refine z_icmp_ge C 47 (((n : Nat) : Int) ≤ ((k : Nat) : Int)) (zi_le (zi_N (n := n) (by omega)) (zi_N (n := k) (by omega))) dX2_takenByReturning_12 (by decide) (fun c1_ => ?_) (fun c1_ => ?_)
      · -- 12 taken
        refine z_iload_n C dX2_takenByReturning_47 rfl 1 rfl ?_
        refine z_iret0 C rfl rfl (by decide) (by decide) dX2_takenByReturning_48 ?_
        obtain rfl : n = k := by omega
        exact ⟨rfl, rfl, rfl⟩
      · -- 12 not taken
        refine z_aload_n C dX2_takenByReturning_15 rfl 0 rfl ?_
        refine z_get (ref := "Shedwheel") (v := .ref a1) C hin_X2_takenByReturning_X2 hL0 hF0 rfl 0 (by decide) (by decide +kernel) (fun _ h9 => h9) rfl dX2_takenByReturning_16 ?_
        refine z_iload_n C dX2_takenByReturning_19 rfl 2 rfl ?_
        have hlt : k < n := by omega
        obtain ⟨hLe, hGe, hnn, hcap⟩ : ea ∈ L ∧ F ea = .inl (G.2.2.1, nn, .inr (.inr (.inr (.inr fe)))) ∧ n ≤ nn ∧ (nn = 10 ∨ nn = 15) := by
          rcases hFe with ⟨h9, -⟩ | h9
          · omega
          · exact h9
        refine z_callV (As := [.int (nI k)]) (st := []) (mc := 0) (ms := 0) C hL1 hF1 rfl (c_Jx4a65c_get_915e3 l hlst G L F a1 mo ea n hL1 hF1 nn k (ad k) fe hLe hGe (by omega) (by omega) (hfe k (by omega)) (by omega) (by omega)) (cwV 1 C.1.2.2.2.2 gX2_takenByReturning_Jx4a65c_get_915e3 rfl rfl rfl (by decide +kernel) ⟨Nat.le_of_ble_eq_true rfl, Nat.le_of_ble_eq_true rfl⟩) rfl (Nat.le_of_ble_eq_true rfl) ⟨Nat.le_of_ble_eq_true rfl, Nat.le_of_ble_eq_true rfl⟩ dX2_takenByReturning_20 (z_p ?_)
        refine z_stk (st' := [.ref ((ad k))]) rfl ?_
        have hLa := (hFd k hlt).1
        have hFa : F (ad k) = fdE (fd k) := (hFd k hlt).2.1
        have hOk : fOk now (fd k) := (hFd k hlt).2.2.1
        obtain ⟨u1, u2, u3, u4, u5, u6, u7, u8⟩ := id hOk
        refine z_castX0 C hLa hFa (by decide +kernel) dX2_takenByReturning_23 ?_
        refine z_astore_n (lv' := [(3, .ref ((ad k))), (0, .ref a0), (1, .int (nI (smV (fun j => rtV (fd j)) k))), (2, .int (nI k))]) C dX2_takenByReturning_26 rfl (by decide) rfl ?_
        refine z_aload_n C dX2_takenByReturning_27 rfl 0 rfl ?_
        refine z_callVN (As := []) (st := []) (mc := 0) (ms := 0) C hLa hFa rfl (c_X0_mayReturn l hlst G L F (ad k) (fSg (fd k)) (fMw (fd k)) (fCr (fd k)) (fOf (fd k)) (fHo (fd k)) (fTh (fd k)) (fCo (fd k)) hLa hFa (by omega) (by omega)) ⟨va_cnB 0 C.1.2.2.2.2 gX2_takenByReturning_X0_mayReturn_n156 rfl rfl rfl (z_nl (host := RX2) C (by decide +kernel)) (C.1.2.2.2.2 _ (show Cond.initialized RX0 ∈ _ from (by decide +kernel))) (by decide +kernel) ⟨Nat.le_of_ble_eq_true rfl, Nat.le_of_ble_eq_true rfl⟩, C.1.2.2.2.2 _ (show Cond.instanceMethod yX0_mayReturn ∈ _ from (by decide +kernel)), C.1.2.2.2.2 _ (show Cond.selects RX0 yX0_mayReturn yX0_mayReturn ∈ _ from (by decide +kernel))⟩ rfl (Nat.le_of_ble_eq_true rfl) ⟨Nat.le_of_ble_eq_true rfl, Nat.le_of_ble_eq_true rfl⟩ dX2_takenByReturning_28 (z_p ?_)
        refine z_stk (st' := [.int (nI (if fOf (fd k) = 1 ∧ fCr (fd k) = 0 then 1 else 0))]) rfl ?_
        refine z_if_eq C 41 (¬ (fOf (fd k) = 1 ∧ fCr (fd k) = 0)) (zif_iff) dX2_takenByReturning_31 (by decide) (fun c2_ => ?_) (fun c2_ => ?_)
        · -- 31 taken
          refine z_iinc (v := nI (k + 1)) (lv' := [(2, .int (nI (k + 1))), (3, .ref ((ad k))), (0, .ref a0), (1, .int (nI (smV (fun j => rtV (fd j)) k)))]) C dX2_takenByReturning_41 3 rfl (nI_add k 1) (by decide) rfl ?_
          refine z_goto C 4 dX2_takenByReturning_44 (by decide) ?_
          refine z_lvs (lv' := [(2, .int (nI (k + 1))), (3, .ref ((ad k))), (0, .ref a0), (1, .int (nI (smV (fun j => rtV (fd j)) (k + 1))))]) (by rw [smV_s, show rtV (fd k) = 0 from by rw [rtV, if_neg (by omega)]]; rfl) ?_
          refine z_sub (lv' := [(0, .ref a0), (1, .int (nI (smV (fun j => rtV (fd j)) (k + 1)))), (2, .int (nI (k + 1)))]) [2, 3, 0] rfl ?_
          exact ih4 (k + 1) (by omega) (by omega)
        · -- 31 not taken
          refine z_iload_n C dX2_takenByReturning_34 rfl 2 rfl ?_
          refine z_aload_n C dX2_takenByReturning_35 rfl 0 rfl ?_
          refine z_callVN (As := []) (st := [.int (nI (smV (fun j => rtV (fd j)) k))]) (mc := 0) (ms := 0) C hLa hFa rfl (c_X0_takenIfRestored l hlst G L F (ad k) (fSg (fd k)) (fMw (fd k)) (fCr (fd k)) (fOf (fd k)) (fHo (fd k)) (fTh (fd k)) (fCo (fd k)) hLa hFa (by omega) (by omega) (by omega) (by omega)) ⟨va_cnB 0 C.1.2.2.2.2 gX2_takenByReturning_X0_takenIfRestored_n143 rfl rfl rfl (z_nl (host := RX2) C (by decide +kernel)) (C.1.2.2.2.2 _ (show Cond.initialized RX0 ∈ _ from (by decide +kernel))) (by decide +kernel) ⟨Nat.le_of_ble_eq_true rfl, Nat.le_of_ble_eq_true rfl⟩, C.1.2.2.2.2 _ (show Cond.instanceMethod yX0_takenIfRestored ∈ _ from (by decide +kernel)), C.1.2.2.2.2 _ (show Cond.selects RX0 yX0_takenIfRestored yX0_takenIfRestored ∈ _ from (by decide +kernel))⟩ rfl (Nat.le_of_ble_eq_true rfl) ⟨Nat.le_of_ble_eq_true rfl, Nat.le_of_ble_eq_true rfl⟩ dX2_takenByReturning_36 (z_p ?_)
          refine z_stk (st' := [.int (nI (rsV (fMw (fd k)) (fOf (fd k)) (fTh (fd k)) (fCo (fd k)))), .int (nI (smV (fun j => rtV (fd j)) k))]) rfl ?_
          refine z_iadd C (nI (smV (fun j => rtV (fd j)) k + rsV (fMw (fd k)) (fOf (fd k)) (fTh (fd k)) (fCo (fd k)))) dX2_takenByReturning_39 (nI_add (smV (fun j => rtV (fd j)) k) (rsV (fMw (fd k)) (fOf (fd k)) (fTh (fd k)) (fCo (fd k)))) ?_
          refine z_istore_n (lv' := [(1, .int (nI (smV (fun j => rtV (fd j)) k + rsV (fMw (fd k)) (fOf (fd k)) (fTh (fd k)) (fCo (fd k))))), (3, .ref ((ad k))), (0, .ref a0), (2, .int (nI k))]) C dX2_takenByReturning_40 rfl (by decide) rfl ?_
          refine z_iinc (v := nI (k + 1)) (lv' := [(2, .int (nI (k + 1))), (1, .int (nI (smV (fun j => rtV (fd j)) k + rsV (fMw (fd k)) (fOf (fd k)) (fTh (fd k)) (fCo (fd k))))), (3, .ref ((ad k))), (0, .ref a0)]) C dX2_takenByReturning_41 3 rfl (nI_add k 1) (by decide) rfl ?_
          refine z_goto C 4 dX2_takenByReturning_44 (by decide) ?_
          refine z_lvs (lv' := [(2, .int (nI (k + 1))), (1, .int (nI (smV (fun j => rtV (fd j)) (k + 1)))), (3, .ref ((ad k))), (0, .ref a0)]) (by rw [smV_s, show rtV (fd k) = fRs (fd k) from by rw [rtV, if_pos (by omega)]]; rfl) ?_
          refine z_sub (lv' := [(0, .ref a0), (1, .int (nI (smV (fun j => rtV (fd j)) (k + 1)))), (2, .int (nI (k + 1)))]) [3, 1, 0] rfl ?_
          exact ih4 (k + 1) (by omega) (by omega)
  exact lp4 _ 0 (Nat.zero_le _) (Nat.lt_succ_self _)

set_option maxRecDepth 100000 in
theorem hin_X2_setSlack_X2 : ∀ w ∈ u_ws RX2 TX2 4, w ∈ wsX2_setSlack := by decide +kernel
set_option maxHeartbeats 4000000 in
set_option maxRecDepth 100000 in
theorem c_X2_setSlack (l : Launch) (hlst : l.stackTraces = false) (G : zGt) (L : List Nat) (F : Nat → va_E) (M : Nat → Prop) (a0 a1 a2 b4 b5 b6 b7 : Nat) (ad : Nat → Nat) (n now sl : Nat) (fd : Nat → FdT) (hco : zCo G M L F a0 a1 a2 b4 b5 b6 b7 ad n now sl fd) (v : Int32) : zX l yX2_setSlack wsX2_setSlack 8 112 1 6 G L F [.ref a0, .int v] (fun rv L1 F1 => ∃ j : Nat, v = nI j ∧ j ≤ 999 ∧ rv = some (.int (nI sl)) ∧ L1 = L ∧ zCo G M L F1 a0 a1 a2 b4 b5 b6 b7 ad n now j fd ∧ ∀ b, M b → F1 b = F b) (fun E L1 F1 => L1 = L ∧ F1 = F ∧ E = "java/lang/IllegalArgumentException" ∧ ¬ zIn 0 999 v) := by
  obtain ⟨⟨hL0, hL1, hL2, hL4, hL5, hL6, hL7⟩, hF0, ⟨mo, ea, nn, fe, hF1, hFe, hfe, hMe⟩, hSr, hNb, hFd, hIj, ⟨hn, hnow, hsl⟩, hM0, hM1, hM2, hM4, hM5, hM6, hM7⟩ := id hco
  refine z_ofX (cc := cX2_setSlack) (nL := 3) (ret := (some .int)) (own := RX2) hlst (by decide +kernel) rfl rfl (Nat.le_of_ble_eq_true rfl) ?_
  intro p e s m below meth c A hout C
  refine z_lvs (lv' := [(0, .ref a0), (1, .int v)]) rfl ?_
  refine z_iload_n C dX2_setSlack_0 rfl 1 rfl ?_
  refine z_iconst C (nI 0) dX2_setSlack_1 (by decide) ?_
  refine z_sipush C (nI 999) dX2_setSlack_2 (by decide) ?_
  refine z_callSX (As := [.int v, .int (nI 0), .int (nI 999)]) (st := []) (mc := 1) (ms := 6) C (c_X2_requireWithin l hlst G L F v 0 999 (by decide) (by decide)) (va_cwS 3 C.1.2.2.2.2 gX2_setSlack_X2_requireWithin rfl rfl rfl (by decide +kernel) ⟨Nat.le_of_ble_eq_true rfl, Nat.le_of_ble_eq_true rfl⟩) rfl (Nat.le_of_ble_eq_true rfl) ⟨Nat.le_of_ble_eq_true rfl, Nat.le_of_ble_eq_true rfl⟩ dX2_setSlack_5 (z_xo C hout (Nat.le_of_ble_eq_true rfl) (Nat.le_of_ble_eq_true rfl) (fun E9 L9 F9 hx => ⟨hx.1, hx.2.1, hx.2.2⟩)) (z_pp (fun hin5 => ?_))
  refine z_stk (st' := []) rfl ?_
  obtain ⟨j, hvj, hj1, hj2⟩ := zIn_of hin5
  refine z_lvs (lv' := [(0, .ref a0), (1, .int (nI j))]) (by rw [hvj]) ?_
  refine z_aload_n C dX2_setSlack_8 rfl 0 rfl ?_
  refine z_get (ref := "Shedwheel") (v := .int (nI sl)) C hin_X2_setSlack_X2 hL0 hF0 rfl 3 (by decide) (by decide +kernel) (fun _ h9 => h9) rfl dX2_setSlack_9 ?_
  refine z_istore_n (lv' := [(2, .int (nI sl)), (0, .ref a0), (1, .int (nI j))]) C dX2_setSlack_12 rfl (by decide) rfl ?_
  refine z_aload_n C dX2_setSlack_13 rfl 1 rfl ?_
  refine z_iload_n C dX2_setSlack_14 rfl 2 rfl ?_
  refine z_put (ref := "Shedwheel") (v := .int (nI j)) (fs' := [.ref a1, .ref a2, .int (nI now), .int (nI j)]) C hin_X2_setSlack_X2 tyX2 tyX2_ok nmX2 hL0 hF0 rfl 3 (by decide) (by decide +kernel) (fun _ h9 => h9) rfl rfl rfl (Nat.le_of_ble_eq_true rfl) rfl dX2_setSlack_15 (fun F1_ h2_ k3_ => ?_)
  have h4_ : F1_ a1 = .inr (0, [.int mo, .ref ea, .int (nI n)]) := (k3_ a1 (zne hF1 hF0 rfl)).trans hF1
  have kc5_ : ∀ b, b ≠ a0 → F1_ b = F b := fun b q0 => k3_ b q0
  refine z_iload_n C dX2_setSlack_18 rfl 0 rfl ?_
  refine z_iret C rfl rfl (by decide) (by decide) dX2_setSlack_19 ?_
  exact ⟨j, hvj, hj2, rfl, rfl, hco.own kc5_ h2_ ⟨Nat.le_refl _, hnow, hj2⟩, fun b hb => kc5_ b (fun e9 => hM0 (e9 ▸ hb))⟩

set_option maxRecDepth 100000 in
theorem hin_X2_pass_X2 : ∀ w ∈ u_ws RX2 TX2 4, w ∈ wsX2_pass := by decide +kernel
set_option maxHeartbeats 4000000 in
set_option maxRecDepth 100000 in
theorem c_X2_pass (l : Launch) (hlst : l.stackTraces = false) (G : zGt) (L : List Nat) (F : Nat → va_E) (M : Nat → Prop) (a0 a1 a2 b4 b5 b6 b7 : Nat) (ad : Nat → Nat) (n now sl : Nat) (fd : Nat → FdT) (hco : zCo G M L F a0 a1 a2 b4 b5 b6 b7 ad n now sl fd) (v : Int32) (hn9 : now ≤ 59900) : zX l yX2_pass wsX2_pass 10 154 1 6 G L F [.ref a0, .int v] (fun rv L1 F1 => ∃ ps : Nat, v = nI ps ∧ 1 ≤ ps ∧ ps ≤ 100 ∧ rv = some (.int (nI (now + ps))) ∧ L1 = L ∧ zCo G M L F1 a0 a1 a2 b4 b5 b6 b7 ad n (now + ps) sl (fdK (fun _ r => fPs ps r) fd n) ∧ ∀ b, M b → F1 b = F b) (fun E L1 F1 => L1 = L ∧ F1 = F ∧ E = "java/lang/IllegalArgumentException" ∧ ¬ zIn 1 100 v) := by
  obtain ⟨⟨hL0, hL1, hL2, hL4, hL5, hL6, hL7⟩, hF0, ⟨mo, ea, nn, fe, hF1, hFe, hfe, hMe⟩, hSr, hNb, hFd, hIj, ⟨hn, hnow, hsl⟩, hM0, hM1, hM2, hM4, hM5, hM6, hM7⟩ := id hco
  refine z_ofX (cc := cX2_pass) (nL := 3) (ret := (some .int)) (own := RX2) hlst (by decide +kernel) rfl rfl (Nat.le_of_ble_eq_true rfl) ?_
  intro p e s m below meth c A hout C
  refine z_lvs (lv' := [(0, .ref a0), (1, .int v)]) rfl ?_
  refine z_iload_n C dX2_pass_0 rfl 1 rfl ?_
  refine z_iconst C (nI 1) dX2_pass_1 (by decide) ?_
  refine z_bipush C (nI 100) dX2_pass_2 (by decide) ?_
  refine z_callSX (As := [.int v, .int (nI 1), .int (nI 100)]) (st := []) (mc := 1) (ms := 6) C (c_X2_requireWithin l hlst G L F v 1 100 (by decide) (by decide)) (va_cwS 3 C.1.2.2.2.2 gX2_pass_X2_requireWithin rfl rfl rfl (by decide +kernel) ⟨Nat.le_of_ble_eq_true rfl, Nat.le_of_ble_eq_true rfl⟩) rfl (Nat.le_of_ble_eq_true rfl) ⟨Nat.le_of_ble_eq_true rfl, Nat.le_of_ble_eq_true rfl⟩ dX2_pass_4 (z_xo C hout (Nat.le_of_ble_eq_true rfl) (Nat.le_of_ble_eq_true rfl) (fun E9 L9 F9 hx => ⟨hx.1, hx.2.1, hx.2.2⟩)) (z_pp (fun hin4 => ?_))
  refine z_stk (st' := []) rfl ?_
  obtain ⟨ps, hvps, hps1, hps2⟩ := zIn_of hin4
  refine z_lvs (lv' := [(0, .ref a0), (1, .int (nI ps))]) (by rw [hvps]) ?_
  refine z_aload_n C dX2_pass_7 rfl 0 rfl ?_
  refine z_dup C dX2_pass_8 rfl ?_
  refine z_get (ref := "Shedwheel") (v := .int (nI now)) C hin_X2_pass_X2 hL0 hF0 rfl 2 (by decide) (by decide +kernel) (fun _ h9 => h9) rfl dX2_pass_9 ?_
  refine z_iload_n C dX2_pass_12 rfl 1 rfl ?_
  refine z_iadd C (nI (now + ps)) dX2_pass_13 (nI_add now ps) ?_
  refine z_put (ref := "Shedwheel") (v := .int (nI (now + ps))) (fs' := [.ref a1, .ref a2, .int (nI (now + ps)), .int (nI sl)]) C hin_X2_pass_X2 tyX2 tyX2_ok nmX2 hL0 hF0 rfl 2 (by decide) (by decide +kernel) (fun _ h9 => h9) rfl rfl rfl (Nat.le_of_ble_eq_true rfl) rfl dX2_pass_14 (fun F1_ h2_ k3_ => ?_)
  have h4_ : F1_ a1 = .inr (0, [.int mo, .ref ea, .int (nI n)]) := (k3_ a1 (zne hF1 hF0 rfl)).trans hF1
  have kc5_ : ∀ b, b ≠ a0 → F1_ b = F b := fun b q0 => k3_ b q0
  refine z_iconst C (nI 0) dX2_pass_17 (by decide) ?_
  refine z_istore_n (lv' := [(2, .int (nI 0)), (0, .ref a0), (1, .int (nI ps))]) C dX2_pass_18 rfl (by decide) rfl ?_
  refine z_sub (lv' := [(0, .ref a0), (1, .int (nI ps)), (2, .int (nI 0))]) [1, 2, 0] rfl ?_
  have hcoA := hco.own kc5_ h2_ ⟨by omega, by omega, hsl⟩
  rw [← fdK_0 (fun _ r => fPs ps r) fd] at hcoA
  have lp19 : ∀ (N9 : Nat) (k : Nat) (F2 : Nat → va_E) (hk : k ≤ n) (hco2 : zCo G M L F2 a0 a1 a2 b4 b5 b6 b7 ad n (now + ps) sl (fdK (fun _ r => fPs ps r) fd k)) (hkM : ∀ b, M b → F2 b = F b) (h9 : n - k < N9), zW p l e { frames := 10, cells := 1, slots := 6, locals := 154 } s m [.ref a0, .int v].toArray below meth c 3 G A (vx_MQ below (zQ G (fun rv L1 F1 => ∃ ps : Nat, v = nI ps ∧ 1 ≤ ps ∧ ps ≤ 100 ∧ rv = some (.int (nI (now + ps))) ∧ L1 = L ∧ zCo G M L F1 a0 a1 a2 b4 b5 b6 b7 ad n (now + ps) sl (fdK (fun _ r => fPs ps r) fd n) ∧ ∀ b, M b → F1 b = F b) A) (zE G (fun E L1 F1 => L1 = L ∧ F1 = F ∧ E = "java/lang/IllegalArgumentException" ∧ ¬ zIn 1 100 v) A) [.ref a0, .int v].toArray s 1 6 A) (0 + 1) (0 + 6) L F2 19 [(0, .ref a0), (1, .int (nI ps)), (2, .int (nI k))] [] := by
    intro N9
    induction N9 with
    | zero => intro k F2 hk hco2 hkM h9; exact absurd h9 (Nat.not_lt_zero _)
    | succ N9 ih19 =>
      intro k F2 hk hco2 hkM hN19
      refine z_iload_n C dX2_pass_19 rfl 2 rfl ?_
      obtain ⟨⟨hL0_2, hL1_2, hL2_2, hL4_2, hL5_2, hL6_2, hL7_2⟩, hF0_2, ⟨mo_2, ea_2, nn_2, fe_2, hF1_2, hFe_2, hfe_2, hMe_2⟩, hSr_2, hNb_2, hFd_2, hIj_2, ⟨hn_2, hnow_2, hsl_2⟩, hM0_2, hM1_2, hM2_2, hM4_2, hM5_2, hM6_2, hM7_2⟩ := id hco2
      refine z_aload_n C dX2_pass_20 rfl 0 rfl ?_
      refine z_get (ref := "Shedwheel") (v := .ref a1) C hin_X2_pass_X2 hL0_2 hF0_2 rfl 0 (by decide) (by decide +kernel) (fun _ h9 => h9) rfl dX2_pass_21 ?_
      refine z_callV (As := []) (st := [.int (nI k)]) (mc := 0) (ms := 0) C hL1_2 hF1_2 rfl (c_Jx4a65c_size_8abf5 l hlst G L F2 a1 mo_2 ea_2 n hL1_2 hF1_2 ) (cwV 0 C.1.2.2.2.2 gX2_pass_Jx4a65c_size_8abf5 rfl rfl rfl (by decide +kernel) ⟨Nat.le_of_ble_eq_true rfl, Nat.le_of_ble_eq_true rfl⟩) rfl (Nat.le_of_ble_eq_true rfl) ⟨Nat.le_of_ble_eq_true rfl, Nat.le_of_ble_eq_true rfl⟩ dX2_pass_24 (z_p ?_)
      refine z_stk (st' := [.int (nI n), .int (nI k)]) rfl ?_
      refine z_icmp_ge C 51 (((n : Nat) : Int) ≤ ((k : Nat) : Int)) (zi_le (zi_N (n := n) (by omega)) (zi_N (n := k) (by omega))) dX2_pass_27 (by decide) (fun c6_ => ?_) (fun c6_ => ?_)
      · -- 27 taken
        refine z_aload_n C dX2_pass_51 rfl 0 rfl ?_
        refine z_get (ref := "Shedwheel") (v := .int (nI (now + ps))) C hin_X2_pass_X2 hL0_2 hF0_2 rfl 2 (by decide) (by decide +kernel) (fun _ h9 => h9) rfl dX2_pass_52 ?_
        refine z_iret C rfl rfl (by decide) (by decide) dX2_pass_55 ?_
        obtain rfl : n = k := by omega
        exact ⟨ps, hvps, hps1, hps2, rfl, rfl, hco2, hkM⟩
      · -- 27 not taken
        refine z_aload_n C dX2_pass_30 rfl 0 rfl ?_
        refine z_get (ref := "Shedwheel") (v := .ref a1) C hin_X2_pass_X2 hL0_2 hF0_2 rfl 0 (by decide) (by decide +kernel) (fun _ h9 => h9) rfl dX2_pass_31 ?_
        refine z_iload_n C dX2_pass_34 rfl 2 rfl ?_
        have hlt : k < n := by omega
        obtain ⟨hLe_2, hGe_2, hnn_2, hcap_2⟩ : ea_2 ∈ L ∧ F2 ea_2 = .inl (G.2.2.1, nn_2, .inr (.inr (.inr (.inr fe_2)))) ∧ n ≤ nn_2 ∧ (nn_2 = 10 ∨ nn_2 = 15) := by
          rcases hFe_2 with ⟨h9, -⟩ | h9
          · omega
          · exact h9
        refine z_callV (As := [.int (nI k)]) (st := []) (mc := 0) (ms := 0) C hL1_2 hF1_2 rfl (c_Jx4a65c_get_915e3 l hlst G L F2 a1 mo_2 ea_2 n hL1_2 hF1_2 nn_2 k (ad k) fe_2 hLe_2 hGe_2 (by omega) (by omega) (hfe_2 k (by omega)) (by omega) (by omega)) (cwV 1 C.1.2.2.2.2 gX2_pass_Jx4a65c_get_915e3 rfl rfl rfl (by decide +kernel) ⟨Nat.le_of_ble_eq_true rfl, Nat.le_of_ble_eq_true rfl⟩) rfl (Nat.le_of_ble_eq_true rfl) ⟨Nat.le_of_ble_eq_true rfl, Nat.le_of_ble_eq_true rfl⟩ dX2_pass_35 (z_p ?_)
        refine z_stk (st' := [.ref ((ad k))]) rfl ?_
        have hLa := (hFd_2 k hlt).1
        have hFa : F2 (ad k) = fdE (fd k) := by
          have h9 := (hFd_2 k hlt).2.1
          rw [fdK_at] at h9
          exact h9
        have hOk : fOk now (fd k) := (hFd k hlt).2.2.1
        obtain ⟨u1, u2, u3, u4, u5, u6, u7, u8⟩ := id hOk
        refine z_castX0 C hLa hFa (by decide +kernel) dX2_pass_38 ?_
        refine z_iload_n C dX2_pass_41 rfl 1 rfl ?_
        refine z_callVN (As := [.int (nI ps)]) (st := []) (mc := 0) (ms := 0) C hLa hFa rfl (c_X0_letPass l hlst G L F2 (ad k) (fSg (fd k)) (fMw (fd k)) (fCr (fd k)) (fOf (fd k)) (fHo (fd k)) (fTh (fd k)) (fCo (fd k)) hLa hFa ps (by omega) (by omega) (by omega)) ⟨va_cnB 1 C.1.2.2.2.2 gX2_pass_X0_letPass_n69 rfl rfl rfl (z_nl (host := RX2) C (by decide +kernel)) (C.1.2.2.2.2 _ (show Cond.initialized RX0 ∈ _ from (by decide +kernel))) (by decide +kernel) ⟨Nat.le_of_ble_eq_true rfl, Nat.le_of_ble_eq_true rfl⟩, C.1.2.2.2.2 _ (show Cond.instanceMethod yX0_letPass ∈ _ from (by decide +kernel)), C.1.2.2.2.2 _ (show Cond.selects RX0 yX0_letPass yX0_letPass ∈ _ from (by decide +kernel))⟩ rfl (Nat.le_of_ble_eq_true rfl) ⟨Nat.le_of_ble_eq_true rfl, Nat.le_of_ble_eq_true rfl⟩ dX2_pass_42 (fun rv7_ L8_ F9_ hp10_ => ?_)
        obtain ⟨e11_, e12_, h13_, k14_⟩ := hp10_
        rw [e11_, e12_]
        have h15_ : F9_ a0 = .inr (3, [.ref a1, .ref a2, .int (nI (now + ps)), .int (nI sl)]) := (k14_ a0 (zne hF0_2 hFa rfl)).trans hF0_2
        have h16_ : F9_ a1 = .inr (0, [.int mo_2, .ref ea_2, .int (nI n)]) := (k14_ a1 (zne hF1_2 hFa rfl)).trans hF1_2
        have kc17_ : ∀ b, b ≠ (ad k) → F9_ b = F2 b := fun b q0 => k14_ b q0
        refine z_stk (st' := []) rfl ?_
        refine z_iinc (v := nI (k + 1)) (lv' := [(2, .int (nI (k + 1))), (0, .ref a0), (1, .int (nI ps))]) C dX2_pass_45 2 rfl (nI_add k 1) (by decide) rfl ?_
        refine z_goto C 19 dX2_pass_48 (by decide) ?_
        have hco3 := hco2.one hlt (fPs_ok hOk) h13_ kc17_
        rw [fdK_s (fun _ r => fPs ps r) fd k rfl] at hco3
        refine z_sub (lv' := [(0, .ref a0), (1, .int (nI ps)), (2, .int (nI (k + 1)))]) [1, 2, 0] rfl ?_
        exact ih19 (k + 1) F9_ (by omega) hco3 (fun b hb => (kc17_ b (hco2.apart hb k hlt)).trans (hkM b hb)) (by omega)
  exact lp19 _ 0 F1_ (Nat.zero_le _) hcoA (fun b hb => kc5_ b (fun e9 => hM0 (e9 ▸ hb))) (Nat.lt_succ_self _)

set_option maxRecDepth 100000 in
theorem hin_X2_restore_X0 : ∀ w ∈ u_ws RX0 TX0 7, w ∈ wsX2_restore := by decide +kernel
set_option maxHeartbeats 4000000 in
set_option maxRecDepth 100000 in
theorem c_X2_restore (l : Launch) (hlst : l.stackTraces = false) (G : zGt) (L : List Nat) (F : Nat → va_E) (M : Nat → Prop) (a0 a1 a2 b4 b5 b6 b7 : Nat) (ad : Nat → Nat) (n now sl : Nat) (fd : Nat → FdT) (hco : zCo G M L F a0 a1 a2 b4 b5 b6 b7 ad n now sl fd) (x : Int32) : zX l yX2_restore wsX2_restore 11 175 2 12 G L F [.ref a0, .int x] (fun rv L1 F1 => ∃ k : Nat, k < n ∧ x = nI k ∧ fOf (fd k) = 1 ∧ rv = some (.int (nI (fTk (fOn (fd k))))) ∧ L1 = L ∧ zCo G M L F1 a0 a1 a2 b4 b5 b6 b7 ad n now sl (upF fd k (fOn (fd k))) ∧ ∀ b, M b → F1 b = F b) (fun E L1 F1 => L1 = L ∧ F1 = F ∧ ((E = "java/lang/IndexOutOfBoundsException" ∧ ¬ zIx n x) ∨ (E = "java/lang/IllegalStateException" ∧ ∃ k : Nat, k < n ∧ x = nI k ∧ fOf (fd k) = 0))) := by
  obtain ⟨⟨hL0, hL1, hL2, hL4, hL5, hL6, hL7⟩, hF0, ⟨mo, ea, nn, fe, hF1, hFe, hfe, hMe⟩, hSr, hNb, hFd, hIj, ⟨hn, hnow, hsl⟩, hM0, hM1, hM2, hM4, hM5, hM6, hM7⟩ := id hco
  refine z_ofX (cc := cX2_restore) (nL := 3) (ret := (some .int)) (own := RX2) hlst (by decide +kernel) rfl rfl (Nat.le_of_ble_eq_true rfl) ?_
  intro p e s m below meth c A hout C
  refine z_lvs (lv' := [(0, .ref a0), (1, .int x)]) rfl ?_
  refine z_aload_n C dX2_restore_0 rfl 0 rfl ?_
  refine z_iload_n C dX2_restore_1 rfl 1 rfl ?_
  refine z_callVX (As := [.int x]) (st := []) (mc := 1) (ms := 6) C hL0 hF0 rfl (c_X2_feederOf l hlst G L F M a0 a1 a2 b4 b5 b6 b7 ad n now sl fd hco x) (cwV 1 C.1.2.2.2.2 gX2_restore_X2_feederOf rfl rfl rfl (by decide +kernel) ⟨Nat.le_of_ble_eq_true rfl, Nat.le_of_ble_eq_true rfl⟩) rfl (Nat.le_of_ble_eq_true rfl) ⟨Nat.le_of_ble_eq_true rfl, Nat.le_of_ble_eq_true rfl⟩ dX2_restore_2 (z_xo C hout (Nat.le_of_ble_eq_true rfl) (Nat.le_of_ble_eq_true rfl) (fun E9 L9 F9 hx => ⟨hx.1, hx.2.1, Or.inl hx.2.2⟩)) (fun rv9 L9 F9 hp9 => ?_)
  obtain ⟨k, hlt, hxk, e91, e92, e93⟩ := hp9
  rw [e91, e92, e93]
  refine z_stk (st' := [.ref ((ad k))]) rfl ?_
  have hLa := (hFd k hlt).1
  have hFa : F (ad k) = fdE (fd k) := (hFd k hlt).2.1
  have hOk : fOk now (fd k) := (hFd k hlt).2.2.1
  obtain ⟨u1, u2, u3, u4, u5, u6, u7, u8⟩ := id hOk
  refine z_astore_n (lv' := [(2, .ref ((ad k))), (0, .ref a0), (1, .int x)]) C dX2_restore_5 rfl (by decide) rfl ?_
  refine z_aload_n C dX2_restore_6 rfl 0 rfl ?_
  refine z_getN (host := RX2) (ref := "Shedwheel$Feeder") (v := .int (nI (fOf (fd k)))) C hin_X2_restore_X0 hLa hFa rfl 3 (by decide) (by decide +kernel) (fun _ h9 => h9) rfl dX2_restore_7 ?_
  refine z_if_ne C 23 (((fOf (fd k) : Nat) : Int) = (0 : Int)) (zi_eq (zi_N (n := fOf (fd k)) (by omega)) zi_0) dX2_restore_10 (by decide) (fun c1_ => ?_) (fun c1_ => ?_)
  · -- 10 taken
    have hcv := crV_le (fTh (fd k))
    refine z_aload_n C dX2_restore_23 rfl 0 rfl ?_
    refine z_callVN (As := []) (st := []) (mc := 0) (ms := 0) C hLa hFa rfl (c_X0_switchOn l hlst G L F (ad k) (fSg (fd k)) (fMw (fd k)) (fCr (fd k)) (fOf (fd k)) (fHo (fd k)) (fTh (fd k)) (fCo (fd k)) hLa hFa (by omega)) ⟨va_cnB 0 C.1.2.2.2.2 gX2_restore_X0_switchOn_n109 rfl rfl rfl (z_nl (host := RX2) C (by decide +kernel)) (C.1.2.2.2.2 _ (show Cond.initialized RX0 ∈ _ from (by decide +kernel))) (by decide +kernel) ⟨Nat.le_of_ble_eq_true rfl, Nat.le_of_ble_eq_true rfl⟩, C.1.2.2.2.2 _ (show Cond.instanceMethod yX0_switchOn ∈ _ from (by decide +kernel)), C.1.2.2.2.2 _ (show Cond.selects RX0 yX0_switchOn yX0_switchOn ∈ _ from (by decide +kernel))⟩ rfl (Nat.le_of_ble_eq_true rfl) ⟨Nat.le_of_ble_eq_true rfl, Nat.le_of_ble_eq_true rfl⟩ dX2_restore_24 (fun rv2_ L3_ F4_ hp5_ => ?_)
    obtain ⟨e6_, e7_, h8_, k9_⟩ := hp5_
    rw [e6_, e7_]
    have h10_ : F4_ a0 = .inr (3, [.ref a1, .ref a2, .int (nI now), .int (nI sl)]) := (k9_ a0 (zne hF0 hFa rfl)).trans hF0
    have h11_ : F4_ a1 = .inr (0, [.int mo, .ref ea, .int (nI n)]) := (k9_ a1 (zne hF1 hFa rfl)).trans hF1
    have kc12_ : ∀ b, b ≠ (ad k) → F4_ b = F b := fun b q0 => k9_ b q0
    refine z_stk (st' := []) rfl ?_
    refine z_aload_n C dX2_restore_27 rfl 0 rfl ?_
    refine z_callVN (As := []) (st := []) (mc := 0) (ms := 0) C hLa h8_ rfl (c_X0_taken l hlst G L F4_ (ad k) (fSg (fd k)) (fMw (fd k)) (fCr (fd k)) 0 (fHo (fd k)) (fTh (fd k)) (crV (fTh (fd k))) hLa h8_ (by omega) (by omega) (by omega)) ⟨va_cnB 0 C.1.2.2.2.2 gX2_restore_X0_taken_n112 rfl rfl rfl (z_nl (host := RX2) C (by decide +kernel)) (C.1.2.2.2.2 _ (show Cond.initialized RX0 ∈ _ from (by decide +kernel))) (by decide +kernel) ⟨Nat.le_of_ble_eq_true rfl, Nat.le_of_ble_eq_true rfl⟩, C.1.2.2.2.2 _ (show Cond.instanceMethod yX0_taken ∈ _ from (by decide +kernel)), C.1.2.2.2.2 _ (show Cond.selects RX0 yX0_taken yX0_taken ∈ _ from (by decide +kernel))⟩ rfl (Nat.le_of_ble_eq_true rfl) ⟨Nat.le_of_ble_eq_true rfl, Nat.le_of_ble_eq_true rfl⟩ dX2_restore_28 (z_p ?_)
    refine z_stk (st' := [.int (nI (tkV (fMw (fd k)) 0 (crV (fTh (fd k)))))]) rfl ?_
    refine z_iret C rfl rfl (by decide) (by decide) dX2_restore_31 ?_
    exact ⟨k, hlt, hxk, by omega, rfl, rfl, hco.one hlt (fOn_ok hOk) h8_ kc12_, fun b hb => kc12_ b (hco.apart hb k hlt)⟩
  · -- 10 not taken
    refine z_throw (cls := "java/lang/IllegalStateException") (text := "the feeder is not cut") (ik := 38) (is := 107) (ic := 42) C rfl (by decide +kernel) (by decide +kernel) (by decide +kernel) (by decide +kernel) ["java/lang/RuntimeException", "java/lang/Exception"] (by decide +kernel) (by decide +kernel) (by decide +kernel) (by decide +kernel) (by decide +kernel) dX2_restore_13 dX2_restore_16 dX2_restore_17 dX2_restore_19 dX2_restore_22 hout (Nat.le_of_ble_eq_true rfl) (Nat.le_of_ble_eq_true rfl) (Nat.le_of_ble_eq_true rfl) (Nat.le_of_ble_eq_true rfl) (Nat.le_of_ble_eq_true rfl) (Nat.le_of_ble_eq_true rfl) ?_
    exact ⟨rfl, rfl, Or.inr ⟨rfl, k, hlt, hxk, by omega⟩⟩

set_option maxRecDepth 100000 in
theorem hin_X2_swapFor_X2 : ∀ w ∈ u_ws RX2 TX2 4, w ∈ wsX2_swapFor := by decide +kernel
set_option maxHeartbeats 4000000 in
set_option maxRecDepth 100000 in
theorem c_X2_swapFor (l : Launch) (hlst : l.stackTraces = false) (G : zGt) (L : List Nat) (F : Nat → va_E) (M : Nat → Prop) (a0 a1 a2 b4 b5 b6 b7 : Nat) (ad : Nat → Nat) (n now sl : Nat) (fd : Nat → FdT) (hco : zCo G M L F a0 a1 a2 b4 b5 b6 b7 ad n now sl fd) (sb : Nat) (hsb : sb < 4096) : zM l yX2_swapFor wsX2_swapFor 10 154 0 0 G L F [.ref a0, .int (nI sb)] (fun rv L1 F1 => rv = some (.int (nI (smV (fun i => swT (fd i)) n))) ∧ L1 = L ∧ zCo G M L F1 a0 a1 a2 b4 b5 b6 b7 ad n now sl (fdK (fun i r => swG sb i r) fd n) ∧ ∀ b, M b → F1 b = F b) := by
  obtain ⟨⟨hL0, hL1, hL2, hL4, hL5, hL6, hL7⟩, hF0, ⟨mo, ea, nn, fe, hF1, hFe, hfe, hMe⟩, hSr, hNb, hFd, hIj, ⟨hn, hnow, hsl⟩, hM0, hM1, hM2, hM4, hM5, hM6, hM7⟩ := id hco
  refine z_of (cc := cX2_swapFor) (nL := 5) (ret := (some .int)) (own := RX2) hlst (by decide +kernel) rfl rfl (Nat.le_of_ble_eq_true rfl) ?_
  intro p e s m below meth c A hnm C
  refine z_lvs (lv' := [(0, .ref a0), (1, .int (nI sb))]) rfl ?_
  refine z_iconst C (nI 0) dX2_swapFor_0 (by decide) ?_
  refine z_istore_n (lv' := [(2, .int (nI 0)), (0, .ref a0), (1, .int (nI sb))]) C dX2_swapFor_1 rfl (by decide) rfl ?_
  refine z_iconst C (nI 0) dX2_swapFor_2 (by decide) ?_
  refine z_istore_n (lv' := [(3, .int (nI 0)), (2, .int (nI 0)), (0, .ref a0), (1, .int (nI sb))]) C dX2_swapFor_3 rfl (by decide) rfl ?_
  refine z_lvs (lv' := [(3, .int (nI 0)), (2, .int (nI (smV (fun i => swT (fd i)) 0))), (0, .ref a0), (1, .int (nI sb))]) rfl ?_
  refine z_sub (lv' := [(0, .ref a0), (1, .int (nI sb)), (2, .int (nI (smV (fun i => swT (fd i)) 0))), (3, .int (nI 0))]) [2, 3, 1, 0] rfl ?_
  have hcoA := hco
  rw [← fdK_0 (fun i r => swG sb i r) fd] at hcoA
  have lp4 : ∀ (N9 : Nat) (k : Nat) (F2 : Nat → va_E) (hk : k ≤ n) (hco2 : zCo G M L F2 a0 a1 a2 b4 b5 b6 b7 ad n now sl (fdK (fun i r => swG sb i r) fd k)) (hkM : ∀ b, M b → F2 b = F b) (h9 : n - k < N9), zW p l e { frames := 10, cells := 0, slots := 0, locals := 154 } s m [.ref a0, .int (nI sb)].toArray below meth c 5 G A (MQ below (zQ G (fun rv L1 F1 => rv = some (.int (nI (smV (fun i => swT (fd i)) n))) ∧ L1 = L ∧ zCo G M L F1 a0 a1 a2 b4 b5 b6 b7 ad n now sl (fdK (fun i r => swG sb i r) fd n) ∧ ∀ b, M b → F1 b = F b) A) [.ref a0, .int (nI sb)].toArray s 0 0 A) 0 0 L F2 4 [(0, .ref a0), (1, .int (nI sb)), (2, .int (nI (smV (fun i => swT (fd i)) k))), (3, .int (nI k))] [] := by
    intro N9
    induction N9 with
    | zero => intro k F2 hk hco2 hkM h9; exact absurd h9 (Nat.not_lt_zero _)
    | succ N9 ih4 =>
      intro k F2 hk hco2 hkM hN4
      refine z_iload_n C dX2_swapFor_4 rfl 3 rfl ?_
      obtain ⟨⟨hL0_2, hL1_2, hL2_2, hL4_2, hL5_2, hL6_2, hL7_2⟩, hF0_2, ⟨mo_2, ea_2, nn_2, fe_2, hF1_2, hFe_2, hfe_2, hMe_2⟩, hSr_2, hNb_2, hFd_2, hIj_2, ⟨hn_2, hnow_2, hsl_2⟩, hM0_2, hM1_2, hM2_2, hM4_2, hM5_2, hM6_2, hM7_2⟩ := id hco2
      have hbv := bitV_le sb k
      refine z_aload_n C dX2_swapFor_5 rfl 0 rfl ?_
      refine z_get (ref := "Shedwheel") (v := .ref a1) C hin_X2_swapFor_X2 hL0_2 hF0_2 rfl 0 (by decide) (by decide +kernel) (fun _ h9 => h9) rfl dX2_swapFor_6 ?_
      refine z_callV (As := []) (st := [.int (nI k)]) (mc := 0) (ms := 0) C hL1_2 hF1_2 rfl (c_Jx4a65c_size_8abf5 l hlst G L F2 a1 mo_2 ea_2 n hL1_2 hF1_2 ) (cwV 0 C.1.2.2.2.2 gX2_swapFor_Jx4a65c_size_8abf5 rfl rfl rfl (by decide +kernel) ⟨Nat.le_of_ble_eq_true rfl, Nat.le_of_ble_eq_true rfl⟩) rfl (Nat.le_of_ble_eq_true rfl) ⟨Nat.le_of_ble_eq_true rfl, Nat.le_of_ble_eq_true rfl⟩ dX2_swapFor_9 (z_p ?_)
      refine z_stk (st' := [.int (nI n), .int (nI k)]) rfl ?_
      refine z_icmp_ge C 67 (((n : Nat) : Int) ≤ ((k : Nat) : Int)) (zi_le (zi_N (n := n) (by omega)) (zi_N (n := k) (by omega))) dX2_swapFor_12 (by decide) (fun c1_ => ?_) (fun c1_ => ?_)
      · -- 12 taken
        refine z_iload_n C dX2_swapFor_67 rfl 2 rfl ?_
        refine z_iret0 C rfl rfl (by decide) (by decide) dX2_swapFor_68 ?_
        obtain rfl : n = k := by omega
        exact ⟨rfl, rfl, hco2, hkM⟩
      · -- 12 not taken
        refine z_aload_n C dX2_swapFor_15 rfl 0 rfl ?_
        refine z_get (ref := "Shedwheel") (v := .ref a1) C hin_X2_swapFor_X2 hL0_2 hF0_2 rfl 0 (by decide) (by decide +kernel) (fun _ h9 => h9) rfl dX2_swapFor_16 ?_
        refine z_iload_n C dX2_swapFor_19 rfl 3 rfl ?_
        have hlt : k < n := by omega
        obtain ⟨hLe_2, hGe_2, hnn_2, hcap_2⟩ : ea_2 ∈ L ∧ F2 ea_2 = .inl (G.2.2.1, nn_2, .inr (.inr (.inr (.inr fe_2)))) ∧ n ≤ nn_2 ∧ (nn_2 = 10 ∨ nn_2 = 15) := by
          rcases hFe_2 with ⟨h9, -⟩ | h9
          · omega
          · exact h9
        refine z_callV (As := [.int (nI k)]) (st := []) (mc := 0) (ms := 0) C hL1_2 hF1_2 rfl (c_Jx4a65c_get_915e3 l hlst G L F2 a1 mo_2 ea_2 n hL1_2 hF1_2 nn_2 k (ad k) fe_2 hLe_2 hGe_2 (by omega) (by omega) (hfe_2 k (by omega)) (by omega) (by omega)) (cwV 1 C.1.2.2.2.2 gX2_swapFor_Jx4a65c_get_915e3 rfl rfl rfl (by decide +kernel) ⟨Nat.le_of_ble_eq_true rfl, Nat.le_of_ble_eq_true rfl⟩) rfl (Nat.le_of_ble_eq_true rfl) ⟨Nat.le_of_ble_eq_true rfl, Nat.le_of_ble_eq_true rfl⟩ dX2_swapFor_20 (z_p ?_)
        refine z_stk (st' := [.ref ((ad k))]) rfl ?_
        have hLa := (hFd_2 k hlt).1
        have hFa : F2 (ad k) = fdE (fd k) := by
          have h9 := (hFd_2 k hlt).2.1
          rw [fdK_at] at h9
          exact h9
        have hOk : fOk now (fd k) := (hFd k hlt).2.2.1
        obtain ⟨u1, u2, u3, u4, u5, u6, u7, u8⟩ := id hOk
        refine z_castX0 C hLa hFa (by decide +kernel) dX2_swapFor_23 ?_
        refine z_astore (lv' := [(4, .ref ((ad k))), (0, .ref a0), (1, .int (nI sb)), (2, .int (nI (smV (fun i => swT (fd i)) k))), (3, .int (nI k))]) C dX2_swapFor_26 (by decide) rfl ?_
        refine z_aload C dX2_swapFor_28 0 rfl ?_
        refine z_callVN (As := []) (st := []) (mc := 0) (ms := 0) C hLa hFa rfl (c_X0_mayReturn l hlst G L F2 (ad k) (fSg (fd k)) (fMw (fd k)) (fCr (fd k)) (fOf (fd k)) (fHo (fd k)) (fTh (fd k)) (fCo (fd k)) hLa hFa (by omega) (by omega)) ⟨va_cnB 0 C.1.2.2.2.2 gX2_swapFor_X0_mayReturn_n156 rfl rfl rfl (z_nl (host := RX2) C (by decide +kernel)) (C.1.2.2.2.2 _ (show Cond.initialized RX0 ∈ _ from (by decide +kernel))) (by decide +kernel) ⟨Nat.le_of_ble_eq_true rfl, Nat.le_of_ble_eq_true rfl⟩, C.1.2.2.2.2 _ (show Cond.instanceMethod yX0_mayReturn ∈ _ from (by decide +kernel)), C.1.2.2.2.2 _ (show Cond.selects RX0 yX0_mayReturn yX0_mayReturn ∈ _ from (by decide +kernel))⟩ rfl (Nat.le_of_ble_eq_true rfl) ⟨Nat.le_of_ble_eq_true rfl, Nat.le_of_ble_eq_true rfl⟩ dX2_swapFor_30 (z_p ?_)
        refine z_stk (st' := [.int (nI (if fOf (fd k) = 1 ∧ fCr (fd k) = 0 then 1 else 0))]) rfl ?_
        refine z_if_eq C 47 (¬ (fOf (fd k) = 1 ∧ fCr (fd k) = 0)) (zif_iff) dX2_swapFor_33 (by decide) (fun c2_ => ?_) (fun c2_ => ?_)
        · -- 33 taken
          refine z_iload_n C dX2_swapFor_47 rfl 2 rfl ?_
          refine z_iload_n C dX2_swapFor_48 rfl 4 rfl ?_
          refine z_callS (As := [.int (nI sb), .int (nI k)]) (st := []) (mc := 0) (ms := 0) C (c_X2_holds l hlst G L F2 sb k (by omega) (by omega)) (va_cwS 2 C.1.2.2.2.2 gX2_swapFor_X2_holds rfl rfl rfl (by decide +kernel) ⟨Nat.le_of_ble_eq_true rfl, Nat.le_of_ble_eq_true rfl⟩) rfl (Nat.le_of_ble_eq_true rfl) ⟨Nat.le_of_ble_eq_true rfl, Nat.le_of_ble_eq_true rfl⟩ dX2_swapFor_49 (z_p ?_)
          refine z_stk (st' := [.int (nI (bitV sb k))]) rfl ?_
          refine z_if_eq C 61 (((bitV sb k : Nat) : Int) = (0 : Int)) (zi_eq (zi_N (n := bitV sb k) (by omega)) zi_0) dX2_swapFor_52 (by decide) (fun c3_ => ?_) (fun c3_ => ?_)
          · -- 52 taken
            refine z_iinc (v := nI (k + 1)) (lv' := [(3, .int (nI (k + 1))), (4, .ref ((ad k))), (0, .ref a0), (1, .int (nI sb)), (2, .int (nI (smV (fun i => swT (fd i)) k)))]) C dX2_swapFor_61 4 rfl (nI_add k 1) (by decide) rfl ?_
            refine z_goto C 4 dX2_swapFor_64 (by decide) ?_
            refine z_lvs (lv' := [(3, .int (nI (k + 1))), (4, .ref ((ad k))), (0, .ref a0), (1, .int (nI sb)), (2, .int (nI (smV (fun i => swT (fd i)) (k + 1))))]) (by rw [smV_s, show swT (fd k) = 0 from by rw [swT, if_neg (by omega)]]; rfl) ?_
            have hco3 := hco2
            rw [fdK_n (fun i r => swG sb i r) fd k (by show swG sb k (fd k) = fd k; rw [swG, if_neg (by omega), if_neg (by omega)])] at hco3
            refine z_sub (lv' := [(0, .ref a0), (1, .int (nI sb)), (2, .int (nI (smV (fun i => swT (fd i)) (k + 1)))), (3, .int (nI (k + 1)))]) [2, 3, 4, 0] rfl ?_
            exact ih4 (k + 1) F2 (by omega) hco3 hkM (by omega)
          · -- 52 not taken
            refine z_aload C dX2_swapFor_55 0 rfl ?_
            refine z_callVN (As := []) (st := []) (mc := 0) (ms := 0) C hLa hFa rfl (c_X0_switchOff l hlst G L F2 (ad k) (fSg (fd k)) (fMw (fd k)) (fCr (fd k)) (fOf (fd k)) (fHo (fd k)) (fTh (fd k)) (fCo (fd k)) hLa hFa (by omega) (by omega) (by omega)) ⟨va_cnB 0 C.1.2.2.2.2 gX2_swapFor_X0_switchOff_n86 rfl rfl rfl (z_nl (host := RX2) C (by decide +kernel)) (C.1.2.2.2.2 _ (show Cond.initialized RX0 ∈ _ from (by decide +kernel))) (by decide +kernel) ⟨Nat.le_of_ble_eq_true rfl, Nat.le_of_ble_eq_true rfl⟩, C.1.2.2.2.2 _ (show Cond.instanceMethod yX0_switchOff ∈ _ from (by decide +kernel)), C.1.2.2.2.2 _ (show Cond.selects RX0 yX0_switchOff yX0_switchOff ∈ _ from (by decide +kernel))⟩ rfl (Nat.le_of_ble_eq_true rfl) ⟨Nat.le_of_ble_eq_true rfl, Nat.le_of_ble_eq_true rfl⟩ dX2_swapFor_57 (fun rv4_ L5_ F6_ hp7_ => ?_)
            obtain ⟨e8_, e9_, h10_, k11_⟩ := hp7_
            rw [e8_, e9_]
            have h12_ : F6_ a0 = .inr (3, [.ref a1, .ref a2, .int (nI now), .int (nI sl)]) := (k11_ a0 (zne hF0_2 hFa rfl)).trans hF0_2
            have h13_ : F6_ a1 = .inr (0, [.int mo_2, .ref ea_2, .int (nI n)]) := (k11_ a1 (zne hF1_2 hFa rfl)).trans hF1_2
            have kc14_ : ∀ b, b ≠ (ad k) → F6_ b = F2 b := fun b q0 => k11_ b q0
            refine z_stk (st' := [.int (nI (tkV (fMw (fd k)) (fOf (fd k)) (fCo (fd k))))]) rfl ?_
            refine z_pop C dX2_swapFor_60 rfl ?_
            refine z_iinc (v := nI (k + 1)) (lv' := [(3, .int (nI (k + 1))), (4, .ref ((ad k))), (0, .ref a0), (1, .int (nI sb)), (2, .int (nI (smV (fun i => swT (fd i)) k)))]) C dX2_swapFor_61 4 rfl (nI_add k 1) (by decide) rfl ?_
            refine z_goto C 4 dX2_swapFor_64 (by decide) ?_
            refine z_lvs (lv' := [(3, .int (nI (k + 1))), (4, .ref ((ad k))), (0, .ref a0), (1, .int (nI sb)), (2, .int (nI (smV (fun i => swT (fd i)) (k + 1))))]) (by rw [smV_s, show swT (fd k) = 0 from by rw [swT, if_neg (by omega)]]; rfl) ?_
            have hco3 := hco2.one hlt (fOff_ok hOk) h10_ kc14_
            rw [fdK_s (fun i r => swG sb i r) fd k (by show swG sb k (fd k) = fOff (fd k); rw [swG, if_neg (by omega), if_pos (by omega)])] at hco3
            refine z_sub (lv' := [(0, .ref a0), (1, .int (nI sb)), (2, .int (nI (smV (fun i => swT (fd i)) (k + 1)))), (3, .int (nI (k + 1)))]) [2, 3, 4, 0] rfl ?_
            exact ih4 (k + 1) F6_ (by omega) hco3 (fun b hb => (kc14_ b (hco2.apart hb k hlt)).trans (hkM b hb)) (by omega)
        · -- 33 not taken
          refine z_aload C dX2_swapFor_36 0 rfl ?_
          refine z_callVN (As := []) (st := []) (mc := 0) (ms := 0) C hLa hFa rfl (c_X0_switchOn l hlst G L F2 (ad k) (fSg (fd k)) (fMw (fd k)) (fCr (fd k)) (fOf (fd k)) (fHo (fd k)) (fTh (fd k)) (fCo (fd k)) hLa hFa (by omega)) ⟨va_cnB 0 C.1.2.2.2.2 gX2_swapFor_X0_switchOn_n109 rfl rfl rfl (z_nl (host := RX2) C (by decide +kernel)) (C.1.2.2.2.2 _ (show Cond.initialized RX0 ∈ _ from (by decide +kernel))) (by decide +kernel) ⟨Nat.le_of_ble_eq_true rfl, Nat.le_of_ble_eq_true rfl⟩, C.1.2.2.2.2 _ (show Cond.instanceMethod yX0_switchOn ∈ _ from (by decide +kernel)), C.1.2.2.2.2 _ (show Cond.selects RX0 yX0_switchOn yX0_switchOn ∈ _ from (by decide +kernel))⟩ rfl (Nat.le_of_ble_eq_true rfl) ⟨Nat.le_of_ble_eq_true rfl, Nat.le_of_ble_eq_true rfl⟩ dX2_swapFor_38 (fun rv15_ L16_ F17_ hp18_ => ?_)
          obtain ⟨e19_, e20_, h21_, k22_⟩ := hp18_
          rw [e19_, e20_]
          have h23_ : F17_ a0 = .inr (3, [.ref a1, .ref a2, .int (nI now), .int (nI sl)]) := (k22_ a0 (zne hF0_2 hFa rfl)).trans hF0_2
          have h24_ : F17_ a1 = .inr (0, [.int mo_2, .ref ea_2, .int (nI n)]) := (k22_ a1 (zne hF1_2 hFa rfl)).trans hF1_2
          have kc25_ : ∀ b, b ≠ (ad k) → F17_ b = F2 b := fun b q0 => k22_ b q0
          refine z_stk (st' := []) rfl ?_
          refine z_iinc (v := nI (smV (fun i => swT (fd i)) k + 1)) (lv' := [(2, .int (nI (smV (fun i => swT (fd i)) k + 1))), (4, .ref ((ad k))), (0, .ref a0), (1, .int (nI sb)), (3, .int (nI k))]) C dX2_swapFor_41 3 rfl (nI_add (smV (fun i => swT (fd i)) k) 1) (by decide) rfl ?_
          refine z_goto C 61 dX2_swapFor_44 (by decide) ?_
          refine z_iinc (v := nI (k + 1)) (lv' := [(3, .int (nI (k + 1))), (2, .int (nI (smV (fun i => swT (fd i)) k + 1))), (4, .ref ((ad k))), (0, .ref a0), (1, .int (nI sb))]) C dX2_swapFor_61 4 rfl (nI_add k 1) (by decide) rfl ?_
          refine z_goto C 4 dX2_swapFor_64 (by decide) ?_
          refine z_lvs (lv' := [(3, .int (nI (k + 1))), (2, .int (nI (smV (fun i => swT (fd i)) (k + 1)))), (4, .ref ((ad k))), (0, .ref a0), (1, .int (nI sb))]) (by rw [smV_s, show swT (fd k) = 1 from by rw [swT, if_pos (by omega)]]) ?_
          have hco3 := hco2.one hlt (fOn_ok hOk) h21_ kc25_
          rw [fdK_s (fun i r => swG sb i r) fd k (by show swG sb k (fd k) = fOn (fd k); rw [swG, if_pos (by omega)])] at hco3
          refine z_sub (lv' := [(0, .ref a0), (1, .int (nI sb)), (2, .int (nI (smV (fun i => swT (fd i)) (k + 1)))), (3, .int (nI (k + 1)))]) [3, 4, 1, 0] rfl ?_
          exact ih4 (k + 1) F17_ (by omega) hco3 (fun b hb => (kc25_ b (hco2.apart hb k hlt)).trans (hkM b hb)) (by omega)
  exact lp4 _ 0 F (Nat.zero_le _) hcoA (fun _ _ => rfl) (Nat.lt_succ_self _)
end
section
set_option maxRecDepth 100000 in
theorem hin_X2_prepareSearch_X0 : ∀ w ∈ u_ws RX0 TX0 7, w ∈ wsX2_prepareSearch := by decide +kernel
set_option maxRecDepth 100000 in
theorem hin_X2_prepareSearch_X2 : ∀ w ∈ u_ws RX2 TX2 4, w ∈ wsX2_prepareSearch := by decide +kernel
set_option maxHeartbeats 4000000 in
set_option maxRecDepth 100000 in
theorem c_X2_prepareSearch (l : Launch) (hlst : l.stackTraces = false) (G : zGt) (L : List Nat) (F : Nat → va_E) (M : Nat → Prop) (a0 a1 a2 b4 b5 b6 b7 : Nat) (ad : Nat → Nat) (n now sl : Nat) (fd : Nat → FdT) (hco : zCo G M L F a0 a1 a2 b4 b5 b6 b7 ad n now sl fd) (sf : Nat) (hsf : 1 ≤ sf ∧ sf ≤ 30000) : zM l yX2_prepareSearch wsX2_prepareSearch 10 154 0 0 G L F [.ref a0, .int (nI sf)] (fun rv L1 F1 => ∃ (cnt bt bh : Nat) (nu tk hr : Nat → Nat) (f4 f5 f6 f7 : Nat → Int32), rv = none ∧ L1 = L ∧ Lst fd nu tk hr n cnt ∧ F1 a2 = .inr (2, [.ref b4, .ref b5, .ref b6, .ref b7, .int (nI cnt), .int (nI sf), .int (nI (sf + sl)), .int (nI 0), .int (nI bt), .int (nI bh)]) ∧ (F1 b4 = .inl (G.2.1, 12, .inl f4) ∧ F1 b5 = .inl (G.2.1, 12, .inl f5) ∧ F1 b6 = .inl (G.2.1, 12, .inl f6) ∧ F1 b7 = .inl (G.2.1, 13, .inl f7)) ∧ (∀ i, i < cnt → f4 i = nI (2 ^ nu i) ∧ f5 i = nI (tk i) ∧ f6 i = nI (hr i)) ∧ (∀ i, i ≤ cnt → f7 i = nI (smV tk i)) ∧ (bt < 1048576 ∧ bh < 1048576) ∧ ∀ b, b ≠ a2 → b ≠ b4 → b ≠ b5 → b ≠ b6 → b ≠ b7 → F1 b = F b) := by
  obtain ⟨⟨hL0, hL1, hL2, hL4, hL5, hL6, hL7⟩, hF0, ⟨mo, ea, nn, fe, hF1, hFe, hfe, hMe⟩, hSr, hNb, hFd, hIj, ⟨hn, hnow, hsl⟩, hM0, hM1, hM2, hM4, hM5, hM6, hM7⟩ := id hco
  obtain ⟨f4, f5, f6, f7, cnt0, sf0, nl0, bs0, bt, bh, hF2, ⟨hF4, hF5, hF6, hF7⟩, h70, hbt, hbh⟩ := hSr
  obtain ⟨n45, n46, n47, n56, n57, n67⟩ := hNb
  refine z_of (cc := cX2_prepareSearch) (nL := 4) (ret := none) (own := RX2) hlst (by decide +kernel) rfl rfl (Nat.le_of_ble_eq_true rfl) ?_
  intro p e s m below meth c A hnm C
  refine z_lvs (lv' := [(0, .ref a0), (1, .int (nI sf))]) rfl ?_
  refine z_aload_n C dX2_prepareSearch_0 rfl 0 rfl ?_
  refine z_get (ref := "Shedwheel") (v := .ref a2) C hin_X2_prepareSearch_X2 hL0 hF0 rfl 1 (by decide) (by decide +kernel) (fun _ h9 => h9) rfl dX2_prepareSearch_1 ?_
  refine z_iload_n C dX2_prepareSearch_4 rfl 1 rfl ?_
  refine z_aload_n C dX2_prepareSearch_5 rfl 0 rfl ?_
  refine z_get (ref := "Shedwheel") (v := .int (nI sl)) C hin_X2_prepareSearch_X2 hL0 hF0 rfl 3 (by decide) (by decide +kernel) (fun _ h9 => h9) rfl dX2_prepareSearch_6 ?_
  refine z_callVN (As := [.int (nI sf), .int (nI sl)]) (st := []) (mc := 0) (ms := 0) C hL2 hF2 rfl (c_X1_begin l hlst G L F a2 b4 b5 b6 b7 cnt0 sf0 nl0 bs0 bt bh hL2 hF2 sf sl) ⟨va_cnB 2 C.1.2.2.2.2 gX2_prepareSearch_X1_begin_n162 rfl rfl rfl (z_nl (host := RX2) C (by decide +kernel)) (C.1.2.2.2.2 _ (show Cond.initialized RX1 ∈ _ from (by decide +kernel))) (by decide +kernel) ⟨Nat.le_of_ble_eq_true rfl, Nat.le_of_ble_eq_true rfl⟩, C.1.2.2.2.2 _ (show Cond.instanceMethod yX1_begin ∈ _ from (by decide +kernel)), C.1.2.2.2.2 _ (show Cond.selects RX1 yX1_begin yX1_begin ∈ _ from (by decide +kernel))⟩ rfl (Nat.le_of_ble_eq_true rfl) ⟨Nat.le_of_ble_eq_true rfl, Nat.le_of_ble_eq_true rfl⟩ dX2_prepareSearch_9 (fun rv1_ L2_ F3_ hp4_ => ?_)
  obtain ⟨e5_, e6_, h7_, k8_⟩ := hp4_
  rw [e5_, e6_]
  have h9_ : F3_ a0 = .inr (3, [.ref a1, .ref a2, .int (nI now), .int (nI sl)]) := (k8_ a0 (zne hF0 hF2 rfl)).trans hF0
  have h10_ : F3_ a1 = .inr (0, [.int mo, .ref ea, .int (nI n)]) := (k8_ a1 (zne hF1 hF2 rfl)).trans hF1
  have h11_ : F3_ b4 = .inl (G.2.1, 12, .inl f4) := (k8_ b4 (zne hF4 hF2 rfl)).trans hF4
  have h12_ : F3_ b5 = .inl (G.2.1, 12, .inl f5) := (k8_ b5 (zne hF5 hF2 rfl)).trans hF5
  have h13_ : F3_ b6 = .inl (G.2.1, 12, .inl f6) := (k8_ b6 (zne hF6 hF2 rfl)).trans hF6
  have h14_ : F3_ b7 = .inl (G.2.1, 13, .inl f7) := (k8_ b7 (zne hF7 hF2 rfl)).trans hF7
  have kc15_ : ∀ b, b ≠ a2 → F3_ b = F b := fun b q0 => k8_ b q0
  refine z_stk (st' := []) rfl ?_
  refine z_iconst C (nI 0) dX2_prepareSearch_12 (by decide) ?_
  refine z_istore_n (lv' := [(2, .int (nI 0)), (0, .ref a0), (1, .int (nI sf))]) C dX2_prepareSearch_13 rfl (by decide) rfl ?_
  refine z_sub (lv' := [(0, .ref a0), (1, .int (nI sf)), (2, .int (nI 0))]) [1, 2, 0] rfl ?_
  have lp14 : ∀ (N9 : Nat) (k cnt : Nat) (nu tk hr : Nat → Nat) (f4 f5 f6 f7 : Nat → Int32) (F2 : Nat → va_E) (hk : k ≤ n) (hls : Lst fd nu tk hr k cnt) (hF2_w : F2 a2 = .inr (2, [.ref b4, .ref b5, .ref b6, .ref b7, .int (nI cnt), .int (nI sf), .int (nI (sf + sl)), .int (nI 0), .int (nI bt), .int (nI bh)])) (hF4_w : F2 b4 = .inl (G.2.1, 12, .inl f4)) (hF5_w : F2 b5 = .inl (G.2.1, 12, .inl f5)) (hF6_w : F2 b6 = .inl (G.2.1, 12, .inl f6)) (hF7_w : F2 b7 = .inl (G.2.1, 13, .inl f7)) (g4 : ∀ i, i < cnt → f4 i = nI (2 ^ nu i) ∧ f5 i = nI (tk i) ∧ f6 i = nI (hr i)) (g7 : ∀ i, i ≤ cnt → f7 i = nI (smV tk i)) (hkp : ∀ b, b ≠ a2 → b ≠ b4 → b ≠ b5 → b ≠ b6 → b ≠ b7 → F2 b = F b) (h9 : n - k < N9), zW p l e { frames := 10, cells := 0, slots := 0, locals := 154 } s m [.ref a0, .int (nI sf)].toArray below meth c 4 G A (MQ below (zQ G (fun rv L1 F1 => ∃ (cnt bt bh : Nat) (nu tk hr : Nat → Nat) (f4 f5 f6 f7 : Nat → Int32), rv = none ∧ L1 = L ∧ Lst fd nu tk hr n cnt ∧ F1 a2 = .inr (2, [.ref b4, .ref b5, .ref b6, .ref b7, .int (nI cnt), .int (nI sf), .int (nI (sf + sl)), .int (nI 0), .int (nI bt), .int (nI bh)]) ∧ (F1 b4 = .inl (G.2.1, 12, .inl f4) ∧ F1 b5 = .inl (G.2.1, 12, .inl f5) ∧ F1 b6 = .inl (G.2.1, 12, .inl f6) ∧ F1 b7 = .inl (G.2.1, 13, .inl f7)) ∧ (∀ i, i < cnt → f4 i = nI (2 ^ nu i) ∧ f5 i = nI (tk i) ∧ f6 i = nI (hr i)) ∧ (∀ i, i ≤ cnt → f7 i = nI (smV tk i)) ∧ (bt < 1048576 ∧ bh < 1048576) ∧ ∀ b, b ≠ a2 → b ≠ b4 → b ≠ b5 → b ≠ b6 → b ≠ b7 → F1 b = F b) A) [.ref a0, .int (nI sf)].toArray s 0 0 A) 0 0 L F2 14 [(0, .ref a0), (1, .int (nI sf)), (2, .int (nI k))] [] := by
    intro N9
    induction N9 with
    | zero => intro k cnt nu tk hr f4 f5 f6 f7 F2 hk hls hF2_w hF4_w hF5_w hF6_w hF7_w g4 g7 hkp h9; exact absurd h9 (Nat.not_lt_zero _)
    | succ N9 ih14 =>
      intro k cnt nu tk hr f4 f5 f6 f7 F2 hk hls hF2_w hF4_w hF5_w hF6_w hF7_w g4 g7 hkp hN14
      refine z_iload_n C dX2_prepareSearch_14 rfl 2 rfl ?_
      have hcl9 := Lst_le hls
      have hco2 := hco.srch hkp ⟨f4, f5, f6, f7, cnt, sf, sf + sl, 0, bt, bh, hF2_w, ⟨hF4_w, hF5_w, hF6_w, hF7_w⟩, g7 0 (Nat.zero_le _), hbt, hbh⟩
      obtain ⟨⟨hL0_2, hL1_2, hL2_2, hL4_2, hL5_2, hL6_2, hL7_2⟩, hF0_2, ⟨mo_2, ea_2, nn_2, fe_2, hF1_2, hFe_2, hfe_2, hMe_2⟩, hSr_2, hNb_2, hFd_2, hIj_2, ⟨hn_2, hnow_2, hsl_2⟩, hM0_2, hM1_2, hM2_2, hM4_2, hM5_2, hM6_2, hM7_2⟩ := id hco2
      refine z_aload_n C dX2_prepareSearch_15 rfl 0 rfl ?_
      refine z_get (ref := "Shedwheel") (v := .ref a1) C hin_X2_prepareSearch_X2 hL0_2 hF0_2 rfl 0 (by decide) (by decide +kernel) (fun _ h9 => h9) rfl dX2_prepareSearch_16 ?_
      refine z_callV (As := []) (st := [.int (nI k)]) (mc := 0) (ms := 0) C hL1_2 hF1_2 rfl (c_Jx4a65c_size_8abf5 l hlst G L F2 a1 mo_2 ea_2 n hL1_2 hF1_2 ) (cwV 0 C.1.2.2.2.2 gX2_prepareSearch_Jx4a65c_size_8abf5 rfl rfl rfl (by decide +kernel) ⟨Nat.le_of_ble_eq_true rfl, Nat.le_of_ble_eq_true rfl⟩) rfl (Nat.le_of_ble_eq_true rfl) ⟨Nat.le_of_ble_eq_true rfl, Nat.le_of_ble_eq_true rfl⟩ dX2_prepareSearch_19 (z_p ?_)
      refine z_stk (st' := [.int (nI n), .int (nI k)]) rfl ?_
      refine z_icmp_ge C 66 (((n : Nat) : Int) ≤ ((k : Nat) : Int)) (zi_le (zi_N (n := n) (by omega)) (zi_N (n := k) (by omega))) dX2_prepareSearch_22 (by decide) (fun c16_ => ?_) (fun c16_ => ?_)
      · -- 22 taken
        refine z_vret0 C rfl (by decide) (by decide) dX2_prepareSearch_66 ?_
        obtain rfl : n = k := by omega
        exact ⟨cnt, bt, bh, nu, tk, hr, f4, f5, f6, f7, rfl, rfl, hls, hF2_w, ⟨hF4_w, hF5_w, hF6_w, hF7_w⟩, g4, g7, ⟨hbt, hbh⟩, hkp⟩
      · -- 22 not taken
        refine z_aload_n C dX2_prepareSearch_25 rfl 0 rfl ?_
        refine z_get (ref := "Shedwheel") (v := .ref a1) C hin_X2_prepareSearch_X2 hL0_2 hF0_2 rfl 0 (by decide) (by decide +kernel) (fun _ h9 => h9) rfl dX2_prepareSearch_26 ?_
        refine z_iload_n C dX2_prepareSearch_29 rfl 2 rfl ?_
        have hlt : k < n := by omega
        obtain ⟨hLe_2, hGe_2, hnn_2, hcap_2⟩ : ea_2 ∈ L ∧ F2 ea_2 = .inl (G.2.2.1, nn_2, .inr (.inr (.inr (.inr fe_2)))) ∧ n ≤ nn_2 ∧ (nn_2 = 10 ∨ nn_2 = 15) := by
          rcases hFe_2 with ⟨h9, -⟩ | h9
          · omega
          · exact h9
        refine z_callV (As := [.int (nI k)]) (st := []) (mc := 0) (ms := 0) C hL1_2 hF1_2 rfl (c_Jx4a65c_get_915e3 l hlst G L F2 a1 mo_2 ea_2 n hL1_2 hF1_2 nn_2 k (ad k) fe_2 hLe_2 hGe_2 (by omega) (by omega) (hfe_2 k (by omega)) (by omega) (by omega)) (cwV 1 C.1.2.2.2.2 gX2_prepareSearch_Jx4a65c_get_915e3 rfl rfl rfl (by decide +kernel) ⟨Nat.le_of_ble_eq_true rfl, Nat.le_of_ble_eq_true rfl⟩) rfl (Nat.le_of_ble_eq_true rfl) ⟨Nat.le_of_ble_eq_true rfl, Nat.le_of_ble_eq_true rfl⟩ dX2_prepareSearch_30 (z_p ?_)
        refine z_stk (st' := [.ref ((ad k))]) rfl ?_
        have hLa := (hFd_2 k hlt).1
        have hFa : F2 (ad k) = fdE (fd k) := (hFd_2 k hlt).2.1
        have hOk : fOk now (fd k) := (hFd k hlt).2.2.1
        obtain ⟨u1, u2, u3, u4, u5, u6, u7, u8⟩ := id hOk
        refine z_castX0 C hLa hFa (by decide +kernel) dX2_prepareSearch_33 ?_
        refine z_astore_n (lv' := [(3, .ref ((ad k))), (0, .ref a0), (1, .int (nI sf)), (2, .int (nI k))]) C dX2_prepareSearch_36 rfl (by decide) rfl ?_
        refine z_aload_n C dX2_prepareSearch_37 rfl 0 rfl ?_
        refine z_callVN (As := []) (st := []) (mc := 0) (ms := 0) C hLa hFa rfl (c_X0_mayBeCut l hlst G L F2 (ad k) (fSg (fd k)) (fMw (fd k)) (fCr (fd k)) (fOf (fd k)) (fHo (fd k)) (fTh (fd k)) (fCo (fd k)) hLa hFa (by omega) (by omega)) ⟨va_cnB 0 C.1.2.2.2.2 gX2_prepareSearch_X0_mayBeCut_n97 rfl rfl rfl (z_nl (host := RX2) C (by decide +kernel)) (C.1.2.2.2.2 _ (show Cond.initialized RX0 ∈ _ from (by decide +kernel))) (by decide +kernel) ⟨Nat.le_of_ble_eq_true rfl, Nat.le_of_ble_eq_true rfl⟩, C.1.2.2.2.2 _ (show Cond.instanceMethod yX0_mayBeCut ∈ _ from (by decide +kernel)), C.1.2.2.2.2 _ (show Cond.selects RX0 yX0_mayBeCut yX0_mayBeCut ∈ _ from (by decide +kernel))⟩ rfl (Nat.le_of_ble_eq_true rfl) ⟨Nat.le_of_ble_eq_true rfl, Nat.le_of_ble_eq_true rfl⟩ dX2_prepareSearch_38 (z_p ?_)
        refine z_stk (st' := [.int (nI (if fOf (fd k) = 0 ∧ fCr (fd k) = 0 then 1 else 0))]) rfl ?_
        refine z_if_eq C 60 (¬ (fOf (fd k) = 0 ∧ fCr (fd k) = 0)) (zif_iff) dX2_prepareSearch_41 (by decide) (fun c17_ => ?_) (fun c17_ => ?_)
        · -- 41 taken
          refine z_iinc (v := nI (k + 1)) (lv' := [(2, .int (nI (k + 1))), (3, .ref ((ad k))), (0, .ref a0), (1, .int (nI sf))]) C dX2_prepareSearch_60 3 rfl (nI_add k 1) (by decide) rfl ?_
          refine z_goto C 14 dX2_prepareSearch_63 (by decide) ?_
          refine z_sub (lv' := [(0, .ref a0), (1, .int (nI sf)), (2, .int (nI (k + 1)))]) [2, 3, 0] rfl ?_
          exact ih14 (k + 1) cnt nu tk hr f4 f5 f6 f7 F2 (by omega) (Lst_skip (by omega) hls) hF2_w hF4_w hF5_w hF6_w hF7_w g4 g7 hkp (by omega)
        · -- 41 not taken
          refine z_aload_n C dX2_prepareSearch_44 rfl 1 rfl ?_
          refine z_get (ref := "Shedwheel") (v := .ref a2) C hin_X2_prepareSearch_X2 hL0_2 hF0_2 rfl 1 (by decide) (by decide +kernel) (fun _ h9 => h9) rfl dX2_prepareSearch_45 ?_
          refine z_iload_n C dX2_prepareSearch_48 rfl 3 rfl ?_
          refine z_aload_n C dX2_prepareSearch_49 rfl 0 rfl ?_
          refine z_callVN (As := []) (st := [.int (nI k), .ref a2]) (mc := 0) (ms := 0) C hLa hFa rfl (c_X0_taken l hlst G L F2 (ad k) (fSg (fd k)) (fMw (fd k)) (fCr (fd k)) (fOf (fd k)) (fHo (fd k)) (fTh (fd k)) (fCo (fd k)) hLa hFa (by omega) (by omega) (by omega)) ⟨va_cnB 0 C.1.2.2.2.2 gX2_prepareSearch_X0_taken_n112 rfl rfl rfl (z_nl (host := RX2) C (by decide +kernel)) (C.1.2.2.2.2 _ (show Cond.initialized RX0 ∈ _ from (by decide +kernel))) (by decide +kernel) ⟨Nat.le_of_ble_eq_true rfl, Nat.le_of_ble_eq_true rfl⟩, C.1.2.2.2.2 _ (show Cond.instanceMethod yX0_taken ∈ _ from (by decide +kernel)), C.1.2.2.2.2 _ (show Cond.selects RX0 yX0_taken yX0_taken ∈ _ from (by decide +kernel))⟩ rfl (Nat.le_of_ble_eq_true rfl) ⟨Nat.le_of_ble_eq_true rfl, Nat.le_of_ble_eq_true rfl⟩ dX2_prepareSearch_50 (z_p ?_)
          refine z_stk (st' := [.int (nI (tkV (fMw (fd k)) (fOf (fd k)) (fCo (fd k)))), .int (nI k), .ref a2]) rfl ?_
          refine z_aload_n C dX2_prepareSearch_53 rfl 0 rfl ?_
          refine z_getN (host := RX2) (ref := "Shedwheel$Feeder") (v := .int (nI (fHo (fd k)))) C hin_X2_prepareSearch_X0 hLa hFa rfl 4 (by decide) (by decide +kernel) (fun _ h9 => h9) rfl dX2_prepareSearch_54 ?_
          refine z_callVN (As := [.int (nI k), .int (nI (tkV (fMw (fd k)) (fOf (fd k)) (fCo (fd k)))), .int (nI (fHo (fd k)))]) (st := []) (mc := 0) (ms := 0) C hL2 hF2_w rfl (c_X1_offer l hlst G L F2 a2 b4 b5 b6 b7 cnt sf (sf + sl) 0 bt bh hL2 hF2_w f4 f5 f6 f7 hL4 hF4_w hL5 hF5_w hL6 hF6_w hL7 hF7_w n45 n46 n47 n56 n57 n67 k (tkV (fMw (fd k)) (fOf (fd k)) (fCo (fd k))) (fHo (fd k)) (smV tk cnt) (by omega) (by omega) (g7 cnt (Nat.le_refl _))) ⟨va_cnB 3 C.1.2.2.2.2 gX2_prepareSearch_X1_offer_n166 rfl rfl rfl (z_nl (host := RX2) C (by decide +kernel)) (C.1.2.2.2.2 _ (show Cond.initialized RX1 ∈ _ from (by decide +kernel))) (by decide +kernel) ⟨Nat.le_of_ble_eq_true rfl, Nat.le_of_ble_eq_true rfl⟩, C.1.2.2.2.2 _ (show Cond.instanceMethod yX1_offer ∈ _ from (by decide +kernel)), C.1.2.2.2.2 _ (show Cond.selects RX1 yX1_offer yX1_offer ∈ _ from (by decide +kernel))⟩ rfl (Nat.le_of_ble_eq_true rfl) ⟨Nat.le_of_ble_eq_true rfl, Nat.le_of_ble_eq_true rfl⟩ dX2_prepareSearch_57 (fun rv18_ L19_ F20_ hp21_ => ?_)
          obtain ⟨e22_, e23_, h25_, h26_, h27_, h28_, h29_, k24_⟩ := hp21_
          rw [e22_, e23_]
          have h30_ : F20_ a0 = .inr (3, [.ref a1, .ref a2, .int (nI now), .int (nI sl)]) := (k24_ a0 (zne hF0_2 hF4_w rfl) (zne hF0_2 hF5_w rfl) (zne hF0_2 hF6_w rfl) (zne hF0_2 hF7_w rfl) (zne hF0_2 hF2_w rfl)).trans hF0_2
          have h31_ : F20_ a1 = .inr (0, [.int mo_2, .ref ea_2, .int (nI n)]) := (k24_ a1 (zne hF1_2 hF4_w rfl) (zne hF1_2 hF5_w rfl) (zne hF1_2 hF6_w rfl) (zne hF1_2 hF7_w rfl) (zne hF1_2 hF2_w rfl)).trans hF1_2
          have h32_ : F20_ (ad k) = .inr (1, [.int (nI (fSg (fd k))), .int (nI (fMw (fd k))), .int (nI (fCr (fd k))), .int (nI (fOf (fd k))), .int (nI (fHo (fd k))), .int (nI (fTh (fd k))), .int (nI (fCo (fd k)))]) := (k24_ (ad k) (zne hFa hF4_w rfl) (zne hFa hF5_w rfl) (zne hFa hF6_w rfl) (zne hFa hF7_w rfl) (zne hFa hF2_w rfl)).trans hFa
          have kc33_ : ∀ b, b ≠ b4 → b ≠ b5 → b ≠ b6 → b ≠ b7 → b ≠ a2 → F20_ b = F2 b := fun b q0 q1 q2 q3 q4 => k24_ b q0 q1 q2 q3 q4
          refine z_stk (st' := []) rfl ?_
          refine z_iinc (v := nI (k + 1)) (lv' := [(2, .int (nI (k + 1))), (3, .ref ((ad k))), (0, .ref a0), (1, .int (nI sf))]) C dX2_prepareSearch_60 3 rfl (nI_add k 1) (by decide) rfl ?_
          refine z_goto C 14 dX2_prepareSearch_63 (by decide) ?_
          refine z_sub (lv' := [(0, .ref a0), (1, .int (nI sf)), (2, .int (nI (k + 1)))]) [2, 3, 0] rfl ?_
          exact ih14 (k + 1) (cnt + 1) (va_up nu cnt k) (va_up tk cnt (fTk (fd k))) (va_up hr cnt (fHo (fd k))) _ _ _ _ F20_ (by omega) (Lst_add (by omega) hls) h29_ h25_ h26_ h27_ h28_ (prep_g4 g4) (prep_g7 g7) (fun b g1 g2 g3 g5 g6 => (kc33_ b g2 g3 g5 g6 g1).trans (hkp b g1 g2 g3 g5 g6)) (by omega)
  exact lp14 _ 0 0 (fun _ => 0) (fun _ => 0) (fun _ => 0) f4 f5 f6 f7 F3_ (Nat.zero_le _) rfl h7_ h11_ h12_ h13_ h14_ (fun i hi => absurd hi (Nat.not_lt_zero i)) (fun i hi => by have e9 : i = 0 := (by omega); subst e9; exact h70) (fun b g1 _ _ _ _ => kc15_ b g1) (Nat.lt_succ_self _)

set_option maxRecDepth 100000 in
theorem hin_X2_chosenFor_X2 : ∀ w ∈ u_ws RX2 TX2 4, w ∈ wsX2_chosenFor := by decide +kernel
set_option maxHeartbeats 4000000 in
set_option maxRecDepth 100000 in
theorem c_X2_chosenFor (l : Launch) (hlst : l.stackTraces = false) (G : zGt) (L : List Nat) (F : Nat → va_E) (M : Nat → Prop) (a0 a1 a2 b4 b5 b6 b7 : Nat) (ad : Nat → Nat) (n now sl : Nat) (fd : Nat → FdT) (hco : zCo G M L F a0 a1 a2 b4 b5 b6 b7 ad n now sl fd) (sf : Nat) (hsf : 1 ≤ sf ∧ sf ≤ 30000) : zM l yX2_chosenFor wsX2_chosenFor 21 640 0 0 G L F [.ref a0, .int (nI sf)] (fun rv L1 F1 => ∃ b : Nat, rv = some (.int (nI b)) ∧ isB n fd sl sf b ∧ b < 4096 ∧ L1 = L ∧ zCo G M L F1 a0 a1 a2 b4 b5 b6 b7 ad n now sl fd ∧ ∀ b, M b → F1 b = F b) := by
  obtain ⟨⟨hL0, hL1, hL2, hL4, hL5, hL6, hL7⟩, hF0, ⟨mo, ea, nn, fe, hF1, hFe, hfe, hMe⟩, hSr, hNb, hFd, hIj, ⟨hn, hnow, hsl⟩, hM0, hM1, hM2, hM4, hM5, hM6, hM7⟩ := id hco
  refine z_of (cc := cX2_chosenFor) (nL := 2) (ret := (some .int)) (own := RX2) hlst (by decide +kernel) rfl rfl (Nat.le_of_ble_eq_true rfl) ?_
  intro p e s m below meth c A hnm C
  refine z_lvs (lv' := [(0, .ref a0), (1, .int (nI sf))]) rfl ?_
  refine z_aload_n C dX2_chosenFor_0 rfl 0 rfl ?_
  refine z_iload_n C dX2_chosenFor_1 rfl 1 rfl ?_
  refine z_callV (As := [.int (nI sf)]) (st := []) (mc := 0) (ms := 0) C hL0 hF0 rfl (c_X2_prepareSearch l hlst G L F M a0 a1 a2 b4 b5 b6 b7 ad n now sl fd hco sf hsf) (cwV 1 C.1.2.2.2.2 gX2_chosenFor_X2_prepareSearch rfl rfl rfl (by decide +kernel) ⟨Nat.le_of_ble_eq_true rfl, Nat.le_of_ble_eq_true rfl⟩) rfl (Nat.le_of_ble_eq_true rfl) ⟨Nat.le_of_ble_eq_true rfl, Nat.le_of_ble_eq_true rfl⟩ dX2_chosenFor_2 (fun rv8 L8 F8 hp8 => ?_)
  obtain ⟨cnt, bt, bh, nu, tk, hr, f4, f5, f6, f7, e81, e82, hls, hF2_w, ⟨hF4_w, hF5_w, hF6_w, hF7_w⟩, g4, g7, ⟨hbt, hbh⟩, hkp⟩ := hp8
  rw [e81, e82]
  refine z_stk (st' := []) rfl ?_
  have hco2 := hco.srch hkp ⟨f4, f5, f6, f7, cnt, sf, sf + sl, 0, bt, bh, hF2_w, ⟨hF4_w, hF5_w, hF6_w, hF7_w⟩, g7 0 (Nat.zero_le _), hbt, hbh⟩
  have hwk := (Lst_ok hnow (by omega) (fun j hj => (hFd j hj).2.2.1) hls).1
  obtain ⟨⟨hL0_2, hL1_2, hL2_2, hL4_2, hL5_2, hL6_2, hL7_2⟩, hF0_2, ⟨mo_2, ea_2, nn_2, fe_2, hF1_2, hFe_2, hfe_2, hMe_2⟩, hSr_2, hNb_2, hFd_2, hIj_2, ⟨hn_2, hnow_2, hsl_2⟩, hM0_2, hM1_2, hM2_2, hM4_2, hM5_2, hM6_2, hM7_2⟩ := id hco2
  refine z_aload_n C dX2_chosenFor_5 rfl 0 rfl ?_
  refine z_get (ref := "Shedwheel") (v := .ref a2) C hin_X2_chosenFor_X2 hL0_2 hF0_2 rfl 1 (by decide) (by decide +kernel) (fun _ h9 => h9) rfl dX2_chosenFor_6 ?_
  refine z_callVN (As := []) (st := []) (mc := 0) (ms := 0) C hL2 hF2_w rfl (c_X1_bestByWalking l hlst G L F8 a2 b4 b5 b6 b7 cnt sf (sf + sl) f4 f5 f6 f7 nu tk hr hL2 hL4 hL5 hL6 hL7 hwk g4 g7 ⟨by omega, by omega⟩ (by omega) 0 bt bh hF2_w hF4_w hF5_w hF6_w hF7_w ⟨(by show 0 < 4096; decide), hbt, hbh⟩) ⟨va_cnB 0 C.1.2.2.2.2 gX2_chosenFor_X1_bestByWalking_n159 rfl rfl rfl (z_nl (host := RX2) C (by decide +kernel)) (C.1.2.2.2.2 _ (show Cond.initialized RX1 ∈ _ from (by decide +kernel))) (by decide +kernel) ⟨Nat.le_of_ble_eq_true rfl, Nat.le_of_ble_eq_true rfl⟩, C.1.2.2.2.2 _ (show Cond.instanceMethod yX1_bestByWalking ∈ _ from (by decide +kernel)), C.1.2.2.2.2 _ (show Cond.selects RX1 yX1_bestByWalking yX1_bestByWalking ∈ _ from (by decide +kernel))⟩ rfl (Nat.le_of_ble_eq_true rfl) ⟨Nat.le_of_ble_eq_true rfl, Nat.le_of_ble_eq_true rfl⟩ dX2_chosenFor_9 (fun rv1_ L2_ F3_ hp4_ => ?_)
  obtain ⟨e5_, e6_, h7_, k8_⟩ := hp4_
  rw [e5_, e6_]
  have h9_ : F3_ a0 = .inr (3, [.ref a1, .ref a2, .int (nI now), .int (nI sl)]) := (k8_ a0 (zne hF0_2 hF2_w rfl)).trans hF0_2
  have h10_ : F3_ a1 = .inr (0, [.int mo_2, .ref ea_2, .int (nI n)]) := (k8_ a1 (zne hF1_2 hF2_w rfl)).trans hF1_2
  have h11_ : F3_ b4 = .inl (G.2.1, 12, .inl f4) := (k8_ b4 (zne hF4_w hF2_w rfl)).trans hF4_w
  have h12_ : F3_ b5 = .inl (G.2.1, 12, .inl f5) := (k8_ b5 (zne hF5_w hF2_w rfl)).trans hF5_w
  have h13_ : F3_ b6 = .inl (G.2.1, 12, .inl f6) := (k8_ b6 (zne hF6_w hF2_w rfl)).trans hF6_w
  have h14_ : F3_ b7 = .inl (G.2.1, 13, .inl f7) := (k8_ b7 (zne hF7_w hF2_w rfl)).trans hF7_w
  have kc15_ : ∀ b, b ≠ a2 → F3_ b = F8 b := fun b q0 => k8_ b q0
  refine z_stk (st' := [.int (nI ((wkV (sf + sl) sf nu tk hr cnt (0, 0, 0) (0, bt, bh)).1))]) rfl ?_
  refine z_iret0 C rfl rfl (by decide) (by decide) dX2_chosenFor_12 ?_
  have hB := best_walk (bt := bt) (bh := bh) (n := n) (now := now) (fd := fd) (sl := sl) (sf := sf) hn hnow (fun j hj => (hFd j hj).2.2.1) hls (by omega) (by omega)
  have hbd : bdV (wkV (sf + sl) sf nu tk hr cnt (0, 0, 0) (0, bt, bh)) := bdV_wk hwk _ _ _ (Nat.le_refl _) (xOk0 _ _ hwk.1) ⟨(by show 0 < 4096; decide), hbt, hbh⟩
  have hco3 := hco2.srch (fun b g1 _ _ _ _ => kc15_ b g1) ⟨f4, f5, f6, f7, cnt, sf, sf + sl, _, _, _, h7_, ⟨h11_, h12_, h13_, h14_⟩, g7 0 (Nat.zero_le _), hbd.2.1, hbd.2.2⟩
  exact ⟨(wkV (sf + sl) sf nu tk hr cnt (0, 0, 0) (0, bt, bh)).1, rfl, hB.1, hB.2, rfl, hco3, fun b hb => (kc15_ b (fun e9 => hM2 (e9 ▸ hb))).trans (hkp b (fun e9 => hM2 (e9 ▸ hb)) (fun e9 => hM4 (e9 ▸ hb)) (fun e9 => hM5 (e9 ▸ hb)) (fun e9 => hM6 (e9 ▸ hb)) (fun e9 => hM7 (e9 ▸ hb)))⟩

set_option maxHeartbeats 4000000 in
set_option maxRecDepth 100000 in
theorem c_X2_choice (l : Launch) (hlst : l.stackTraces = false) (G : zGt) (L : List Nat) (F : Nat → va_E) (M : Nat → Prop) (a0 a1 a2 b4 b5 b6 b7 : Nat) (ad : Nat → Nat) (n now sl : Nat) (fd : Nat → FdT) (hco : zCo G M L F a0 a1 a2 b4 b5 b6 b7 ad n now sl fd) (v : Int32) : zX l yX2_choice wsX2_choice 22 661 1 6 G L F [.ref a0, .int v] (fun rv L1 F1 => ∃ sf b : Nat, v = nI sf ∧ 1 ≤ sf ∧ sf ≤ 20000 ∧ rv = some (.int (nI b)) ∧ isB n fd sl sf b ∧ L1 = L ∧ zCo G M L F1 a0 a1 a2 b4 b5 b6 b7 ad n now sl fd ∧ ∀ b, M b → F1 b = F b) (fun E L1 F1 => L1 = L ∧ F1 = F ∧ E = "java/lang/IllegalArgumentException" ∧ ¬ zIn 1 20000 v) := by
  obtain ⟨⟨hL0, hL1, hL2, hL4, hL5, hL6, hL7⟩, hF0, ⟨mo, ea, nn, fe, hF1, hFe, hfe, hMe⟩, hSr, hNb, hFd, hIj, ⟨hn, hnow, hsl⟩, hM0, hM1, hM2, hM4, hM5, hM6, hM7⟩ := id hco
  refine z_ofX (cc := cX2_choice) (nL := 2) (ret := (some .int)) (own := RX2) hlst (by decide +kernel) rfl rfl (Nat.le_of_ble_eq_true rfl) ?_
  intro p e s m below meth c A hout C
  refine z_lvs (lv' := [(0, .ref a0), (1, .int v)]) rfl ?_
  refine z_iload_n C dX2_choice_0 rfl 1 rfl ?_
  refine z_iconst C (nI 1) dX2_choice_1 (by decide) ?_
  refine z_sipush C (nI 20000) dX2_choice_2 (by decide) ?_
  refine z_callSX (As := [.int v, .int (nI 1), .int (nI 20000)]) (st := []) (mc := 1) (ms := 6) C (c_X2_requireWithin l hlst G L F v 1 20000 (by decide) (by decide)) (va_cwS 3 C.1.2.2.2.2 gX2_choice_X2_requireWithin rfl rfl rfl (by decide +kernel) ⟨Nat.le_of_ble_eq_true rfl, Nat.le_of_ble_eq_true rfl⟩) rfl (Nat.le_of_ble_eq_true rfl) ⟨Nat.le_of_ble_eq_true rfl, Nat.le_of_ble_eq_true rfl⟩ dX2_choice_5 (z_xo C hout (Nat.le_of_ble_eq_true rfl) (Nat.le_of_ble_eq_true rfl) (fun E9 L9 F9 hx => ⟨hx.1, hx.2.1, hx.2.2⟩)) (z_pp (fun hin5 => ?_))
  refine z_stk (st' := []) rfl ?_
  obtain ⟨sf, hvsf, hsf1, hsf2⟩ := zIn_of hin5
  refine z_lvs (lv' := [(0, .ref a0), (1, .int (nI sf))]) (by rw [hvsf]) ?_
  refine z_aload_n C dX2_choice_8 rfl 0 rfl ?_
  refine z_iload_n C dX2_choice_9 rfl 1 rfl ?_
  refine z_callV (As := [.int (nI sf)]) (st := []) (mc := 0) (ms := 0) C hL0 hF0 rfl (c_X2_chosenFor l hlst G L F M a0 a1 a2 b4 b5 b6 b7 ad n now sl fd hco sf ⟨by omega, by omega⟩) (cwV 1 C.1.2.2.2.2 gX2_choice_X2_chosenFor rfl rfl rfl (by decide +kernel) ⟨Nat.le_of_ble_eq_true rfl, Nat.le_of_ble_eq_true rfl⟩) rfl (Nat.le_of_ble_eq_true rfl) ⟨Nat.le_of_ble_eq_true rfl, Nat.le_of_ble_eq_true rfl⟩ dX2_choice_10 (fun rv8 L8 F8 hp8 => ?_)
  obtain ⟨sb, e81, hB, hsb, e82, hco2, hkM⟩ := hp8
  rw [e81, e82]
  refine z_stk (st' := [.int (nI sb)]) rfl ?_
  obtain ⟨⟨hL0_8, hL1_8, hL2_8, hL4_8, hL5_8, hL6_8, hL7_8⟩, hF0_8, ⟨mo_8, ea_8, nn_8, fe_8, hF1_8, hFe_8, hfe_8, hMe_8⟩, hSr_8, hNb_8, hFd_8, hIj_8, ⟨hn_8, hnow_8, hsl_8⟩, hM0_8, hM1_8, hM2_8, hM4_8, hM5_8, hM6_8, hM7_8⟩ := id hco2
  refine z_iret C rfl rfl (by decide) (by decide) dX2_choice_13 ?_
  exact ⟨sf, sb, hvsf, hsf1, hsf2, rfl, hB, rfl, hco2, hkM⟩

set_option maxRecDepth 100000 in
theorem hin_X2_relieve_X2 : ∀ w ∈ u_ws RX2 TX2 4, w ∈ wsX2_relieve := by decide +kernel
set_option maxHeartbeats 4000000 in
set_option maxRecDepth 100000 in
theorem c_X2_relieve (l : Launch) (hlst : l.stackTraces = false) (G : zGt) (L : List Nat) (F : Nat → va_E) (M : Nat → Prop) (a0 a1 a2 b4 b5 b6 b7 : Nat) (ad : Nat → Nat) (n now sl : Nat) (fd : Nat → FdT) (hco : zCo G M L F a0 a1 a2 b4 b5 b6 b7 ad n now sl fd) (v : Int32) : zX l yX2_relieve wsX2_relieve 22 661 2 12 G L F [.ref a0, .int v] (fun rv L1 F1 => ∃ sf b : Nat, v = nI sf ∧ 1 ≤ sf ∧ sf ≤ 20000 ∧ rv = some (.int (nI (smV (fun i => reT b i (fd i)) n))) ∧ isB n fd sl sf b ∧ b ≠ 0 ∧ L1 = L ∧ zCo G M L F1 a0 a1 a2 b4 b5 b6 b7 ad n now sl (fdK (fun i r => reG b i r) fd n) ∧ ∀ b, M b → F1 b = F b) (fun E L1 F1 => (L1 = L ∧ F1 = F ∧ E = "java/lang/IllegalArgumentException" ∧ ¬ zIn 1 20000 v) ∨ (∃ sf : Nat, v = nI sf ∧ 1 ≤ sf ∧ sf ≤ 20000 ∧ E = "java/util/NoSuchElementException" ∧ isB n fd sl sf 0 ∧ L1 = L ∧ zCo G M L F1 a0 a1 a2 b4 b5 b6 b7 ad n now sl fd ∧ ∀ b, M b → F1 b = F b)) := by
  obtain ⟨⟨hL0, hL1, hL2, hL4, hL5, hL6, hL7⟩, hF0, ⟨mo, ea, nn, fe, hF1, hFe, hfe, hMe⟩, hSr, hNb, hFd, hIj, ⟨hn, hnow, hsl⟩, hM0, hM1, hM2, hM4, hM5, hM6, hM7⟩ := id hco
  refine z_ofX (cc := cX2_relieve) (nL := 5) (ret := (some .int)) (own := RX2) hlst (by decide +kernel) rfl rfl (Nat.le_of_ble_eq_true rfl) ?_
  intro p e s m below meth c A hout C
  refine z_lvs (lv' := [(0, .ref a0), (1, .int v)]) rfl ?_
  refine z_iload_n C dX2_relieve_0 rfl 1 rfl ?_
  refine z_iconst C (nI 1) dX2_relieve_1 (by decide) ?_
  refine z_sipush C (nI 20000) dX2_relieve_2 (by decide) ?_
  refine z_callSX (As := [.int v, .int (nI 1), .int (nI 20000)]) (st := []) (mc := 1) (ms := 6) C (c_X2_requireWithin l hlst G L F v 1 20000 (by decide) (by decide)) (va_cwS 3 C.1.2.2.2.2 gX2_relieve_X2_requireWithin rfl rfl rfl (by decide +kernel) ⟨Nat.le_of_ble_eq_true rfl, Nat.le_of_ble_eq_true rfl⟩) rfl (Nat.le_of_ble_eq_true rfl) ⟨Nat.le_of_ble_eq_true rfl, Nat.le_of_ble_eq_true rfl⟩ dX2_relieve_5 (z_xo C hout (Nat.le_of_ble_eq_true rfl) (Nat.le_of_ble_eq_true rfl) (fun E9 L9 F9 hx => Or.inl hx)) (z_pp (fun hin5 => ?_))
  refine z_stk (st' := []) rfl ?_
  obtain ⟨sf, hvsf, hsf1, hsf2⟩ := zIn_of hin5
  refine z_lvs (lv' := [(0, .ref a0), (1, .int (nI sf))]) (by rw [hvsf]) ?_
  refine z_aload_n C dX2_relieve_8 rfl 0 rfl ?_
  refine z_iload_n C dX2_relieve_9 rfl 1 rfl ?_
  refine z_callV (As := [.int (nI sf)]) (st := []) (mc := 0) (ms := 0) C hL0 hF0 rfl (c_X2_chosenFor l hlst G L F M a0 a1 a2 b4 b5 b6 b7 ad n now sl fd hco sf ⟨by omega, by omega⟩) (cwV 1 C.1.2.2.2.2 gX2_relieve_X2_chosenFor rfl rfl rfl (by decide +kernel) ⟨Nat.le_of_ble_eq_true rfl, Nat.le_of_ble_eq_true rfl⟩) rfl (Nat.le_of_ble_eq_true rfl) ⟨Nat.le_of_ble_eq_true rfl, Nat.le_of_ble_eq_true rfl⟩ dX2_relieve_10 (fun rv8 L8 F8 hp8 => ?_)
  obtain ⟨sb, e81, hB, hsb, e82, hco2, hkM⟩ := hp8
  rw [e81, e82]
  refine z_stk (st' := [.int (nI sb)]) rfl ?_
  obtain ⟨⟨hL0_8, hL1_8, hL2_8, hL4_8, hL5_8, hL6_8, hL7_8⟩, hF0_8, ⟨mo_8, ea_8, nn_8, fe_8, hF1_8, hFe_8, hfe_8, hMe_8⟩, hSr_8, hNb_8, hFd_8, hIj_8, ⟨hn_8, hnow_8, hsl_8⟩, hM0_8, hM1_8, hM2_8, hM4_8, hM5_8, hM6_8, hM7_8⟩ := id hco2
  refine z_istore_n (lv' := [(2, .int (nI sb)), (0, .ref a0), (1, .int (nI sf))]) C dX2_relieve_13 rfl (by decide) rfl ?_
  refine z_iload_n C dX2_relieve_14 rfl 0 rfl ?_
  refine z_if_ne C 28 (((sb : Nat) : Int) = (0 : Int)) (zi_eq (zi_N (n := sb) (by omega)) zi_0) dX2_relieve_15 (by decide) (fun c1_ => ?_) (fun c1_ => ?_)
  · -- 15 taken
    refine z_iconst C (nI 0) dX2_relieve_28 (by decide) ?_
    refine z_istore_n (lv' := [(3, .int (nI 0)), (2, .int (nI sb)), (0, .ref a0), (1, .int (nI sf))]) C dX2_relieve_29 rfl (by decide) rfl ?_
    refine z_iconst C (nI 0) dX2_relieve_30 (by decide) ?_
    refine z_istore (lv' := [(4, .int (nI 0)), (3, .int (nI 0)), (2, .int (nI sb)), (0, .ref a0), (1, .int (nI sf))]) C dX2_relieve_31 (by decide) rfl ?_
    refine z_lvs (lv' := [(4, .int (nI 0)), (3, .int (nI (smV (fun i => reT sb i (fd i)) 0))), (2, .int (nI sb)), (0, .ref a0), (1, .int (nI sf))]) rfl ?_
    refine z_sub (lv' := [(0, .ref a0), (1, .int (nI sf)), (2, .int (nI sb)), (3, .int (nI (smV (fun i => reT sb i (fd i)) 0))), (4, .int (nI 0))]) [3, 4, 2, 1, 0] rfl ?_
    have hcoA := hco2
    rw [← fdK_0 (fun i r => reG sb i r) fd] at hcoA
    have lp33 : ∀ (N9 : Nat) (k : Nat) (F2 : Nat → va_E) (hk : k ≤ n) (hco2 : zCo G M L F2 a0 a1 a2 b4 b5 b6 b7 ad n now sl (fdK (fun i r => reG sb i r) fd k)) (hkM : ∀ b, M b → F2 b = F b) (h9 : n - k < N9), zW p l e { frames := 22, cells := 2, slots := 12, locals := 661 } s m [.ref a0, .int v].toArray below meth c 5 G A (vx_MQ below (zQ G (fun rv L1 F1 => ∃ sf b : Nat, v = nI sf ∧ 1 ≤ sf ∧ sf ≤ 20000 ∧ rv = some (.int (nI (smV (fun i => reT b i (fd i)) n))) ∧ isB n fd sl sf b ∧ b ≠ 0 ∧ L1 = L ∧ zCo G M L F1 a0 a1 a2 b4 b5 b6 b7 ad n now sl (fdK (fun i r => reG b i r) fd n) ∧ ∀ b, M b → F1 b = F b) A) (zE G (fun E L1 F1 => (L1 = L ∧ F1 = F ∧ E = "java/lang/IllegalArgumentException" ∧ ¬ zIn 1 20000 v) ∨ (∃ sf : Nat, v = nI sf ∧ 1 ≤ sf ∧ sf ≤ 20000 ∧ E = "java/util/NoSuchElementException" ∧ isB n fd sl sf 0 ∧ L1 = L ∧ zCo G M L F1 a0 a1 a2 b4 b5 b6 b7 ad n now sl fd ∧ ∀ b, M b → F1 b = F b)) A) [.ref a0, .int v].toArray s 2 12 A) (0 + 1) (0 + 6) L F2 33 [(0, .ref a0), (1, .int (nI sf)), (2, .int (nI sb)), (3, .int (nI (smV (fun i => reT sb i (fd i)) k))), (4, .int (nI k))] [] := by
      intro N9
      induction N9 with
      | zero => intro k F2 hk hco2 hkM h9; exact absurd h9 (Nat.not_lt_zero _)
      | succ N9 ih33 =>
        intro k F2 hk hco2 hkM hN33
        refine z_iload C dX2_relieve_33 4 rfl ?_
        obtain ⟨⟨hL0_2, hL1_2, hL2_2, hL4_2, hL5_2, hL6_2, hL7_2⟩, hF0_2, ⟨mo_2, ea_2, nn_2, fe_2, hF1_2, hFe_2, hfe_2, hMe_2⟩, hSr_2, hNb_2, hFd_2, hIj_2, ⟨hn_2, hnow_2, hsl_2⟩, hM0_2, hM1_2, hM2_2, hM4_2, hM5_2, hM6_2, hM7_2⟩ := id hco2
        have hbv := bitV_le sb k
        refine z_aload_n C dX2_relieve_35 rfl 0 rfl ?_
        refine z_get (ref := "Shedwheel") (v := .ref a1) C hin_X2_relieve_X2 hL0_2 hF0_2 rfl 0 (by decide) (by decide +kernel) (fun _ h9 => h9) rfl dX2_relieve_36 ?_
        refine z_callV (As := []) (st := [.int (nI k)]) (mc := 0) (ms := 0) C hL1_2 hF1_2 rfl (c_Jx4a65c_size_8abf5 l hlst G L F2 a1 mo_2 ea_2 n hL1_2 hF1_2 ) (cwV 0 C.1.2.2.2.2 gX2_relieve_Jx4a65c_size_8abf5 rfl rfl rfl (by decide +kernel) ⟨Nat.le_of_ble_eq_true rfl, Nat.le_of_ble_eq_true rfl⟩) rfl (Nat.le_of_ble_eq_true rfl) ⟨Nat.le_of_ble_eq_true rfl, Nat.le_of_ble_eq_true rfl⟩ dX2_relieve_39 (z_p ?_)
        refine z_stk (st' := [.int (nI n), .int (nI k)]) rfl ?_
        refine z_icmp_ge C 78 (((n : Nat) : Int) ≤ ((k : Nat) : Int)) (zi_le (zi_N (n := n) (by omega)) (zi_N (n := k) (by omega))) dX2_relieve_42 (by decide) (fun c2_ => ?_) (fun c2_ => ?_)
        · -- 42 taken
          refine z_iload_n C dX2_relieve_78 rfl 3 rfl ?_
          refine z_iret C rfl rfl (by decide) (by decide) dX2_relieve_79 ?_
          obtain rfl : n = k := by omega
          exact ⟨sf, sb, hvsf, hsf1, hsf2, rfl, hB, by omega, rfl, hco2, hkM⟩
        · -- 42 not taken
          refine z_iload_n C dX2_relieve_45 rfl 2 rfl ?_
          refine z_iload C dX2_relieve_46 4 rfl ?_
          refine z_callS (As := [.int (nI sb), .int (nI k)]) (st := []) (mc := 0) (ms := 0) C (c_X2_holds l hlst G L F2 sb k (by omega) (by omega)) (va_cwS 2 C.1.2.2.2.2 gX2_relieve_X2_holds rfl rfl rfl (by decide +kernel) ⟨Nat.le_of_ble_eq_true rfl, Nat.le_of_ble_eq_true rfl⟩) rfl (Nat.le_of_ble_eq_true rfl) ⟨Nat.le_of_ble_eq_true rfl, Nat.le_of_ble_eq_true rfl⟩ dX2_relieve_48 (z_p ?_)
          refine z_stk (st' := [.int (nI (bitV sb k))]) rfl ?_
          refine z_if_eq C 72 (((bitV sb k : Nat) : Int) = (0 : Int)) (zi_eq (zi_N (n := bitV sb k) (by omega)) zi_0) dX2_relieve_51 (by decide) (fun c3_ => ?_) (fun c3_ => ?_)
          · -- 51 taken
            refine z_iinc (v := nI (k + 1)) (lv' := [(4, .int (nI (k + 1))), (0, .ref a0), (1, .int (nI sf)), (2, .int (nI sb)), (3, .int (nI (smV (fun i => reT sb i (fd i)) k)))]) C dX2_relieve_72 4 rfl (nI_add k 1) (by decide) rfl ?_
            refine z_goto C 33 dX2_relieve_75 (by decide) ?_
            refine z_lvs (lv' := [(4, .int (nI (k + 1))), (0, .ref a0), (1, .int (nI sf)), (2, .int (nI sb)), (3, .int (nI (smV (fun i => reT sb i (fd i)) (k + 1))))]) (by rw [smV_s, show reT sb k (fd k) = 0 from by rw [reT, if_neg (by omega)]]; rfl) ?_
            have hco3 := hco2
            rw [fdK_n (fun i r => reG sb i r) fd k (by show reG sb k (fd k) = fd k; rw [reG, if_neg (by omega)])] at hco3
            refine z_sub (lv' := [(0, .ref a0), (1, .int (nI sf)), (2, .int (nI sb)), (3, .int (nI (smV (fun i => reT sb i (fd i)) (k + 1)))), (4, .int (nI (k + 1)))]) [1, 2, 3, 4, 0] rfl ?_
            exact ih33 (k + 1) F2 (by omega) hco3 hkM (by omega)
          · -- 51 not taken
            refine z_iload_n C dX2_relieve_54 rfl 3 rfl ?_
            refine z_aload_n C dX2_relieve_55 rfl 0 rfl ?_
            refine z_get (ref := "Shedwheel") (v := .ref a1) C hin_X2_relieve_X2 hL0_2 hF0_2 rfl 0 (by decide) (by decide +kernel) (fun _ h9 => h9) rfl dX2_relieve_56 ?_
            refine z_iload C dX2_relieve_59 4 rfl ?_
            have hlt : k < n := by omega
            obtain ⟨hLe_2, hGe_2, hnn_2, hcap_2⟩ : ea_2 ∈ L ∧ F2 ea_2 = .inl (G.2.2.1, nn_2, .inr (.inr (.inr (.inr fe_2)))) ∧ n ≤ nn_2 ∧ (nn_2 = 10 ∨ nn_2 = 15) := by
              rcases hFe_2 with ⟨h9, -⟩ | h9
              · omega
              · exact h9
            refine z_callV (As := [.int (nI k)]) (st := [.int (nI (smV (fun i => reT sb i (fd i)) k))]) (mc := 0) (ms := 0) C hL1_2 hF1_2 rfl (c_Jx4a65c_get_915e3 l hlst G L F2 a1 mo_2 ea_2 n hL1_2 hF1_2 nn_2 k (ad k) fe_2 hLe_2 hGe_2 (by omega) (by omega) (hfe_2 k (by omega)) (by omega) (by omega)) (cwV 1 C.1.2.2.2.2 gX2_relieve_Jx4a65c_get_915e3 rfl rfl rfl (by decide +kernel) ⟨Nat.le_of_ble_eq_true rfl, Nat.le_of_ble_eq_true rfl⟩) rfl (Nat.le_of_ble_eq_true rfl) ⟨Nat.le_of_ble_eq_true rfl, Nat.le_of_ble_eq_true rfl⟩ dX2_relieve_61 (z_p ?_)
            refine z_stk (st' := [.ref ((ad k)), .int (nI (smV (fun i => reT sb i (fd i)) k))]) rfl ?_
            have hLa := (hFd_2 k hlt).1
            have hFa : F2 (ad k) = fdE (fd k) := by
              have h9 := (hFd_2 k hlt).2.1
              rw [fdK_at] at h9
              exact h9
            have hOk : fOk now (fd k) := (hFd k hlt).2.2.1
            obtain ⟨u1, u2, u3, u4, u5, u6, u7, u8⟩ := id hOk
            refine z_castX0 C hLa hFa (by decide +kernel) dX2_relieve_64 ?_
            refine z_callVN (As := []) (st := [.int (nI (smV (fun i => reT sb i (fd i)) k))]) (mc := 0) (ms := 0) C hLa hFa rfl (c_X0_switchOff l hlst G L F2 (ad k) (fSg (fd k)) (fMw (fd k)) (fCr (fd k)) (fOf (fd k)) (fHo (fd k)) (fTh (fd k)) (fCo (fd k)) hLa hFa (by omega) (by omega) (by omega)) ⟨va_cnB 0 C.1.2.2.2.2 gX2_relieve_X0_switchOff_n86 rfl rfl rfl (z_nl (host := RX2) C (by decide +kernel)) (C.1.2.2.2.2 _ (show Cond.initialized RX0 ∈ _ from (by decide +kernel))) (by decide +kernel) ⟨Nat.le_of_ble_eq_true rfl, Nat.le_of_ble_eq_true rfl⟩, C.1.2.2.2.2 _ (show Cond.instanceMethod yX0_switchOff ∈ _ from (by decide +kernel)), C.1.2.2.2.2 _ (show Cond.selects RX0 yX0_switchOff yX0_switchOff ∈ _ from (by decide +kernel))⟩ rfl (Nat.le_of_ble_eq_true rfl) ⟨Nat.le_of_ble_eq_true rfl, Nat.le_of_ble_eq_true rfl⟩ dX2_relieve_67 (fun rv4_ L5_ F6_ hp7_ => ?_)
            obtain ⟨e8_, e9_, h10_, k11_⟩ := hp7_
            rw [e8_, e9_]
            have h12_ : F6_ a0 = .inr (3, [.ref a1, .ref a2, .int (nI now), .int (nI sl)]) := (k11_ a0 (zne hF0_2 hFa rfl)).trans hF0_2
            have h13_ : F6_ a1 = .inr (0, [.int mo_2, .ref ea_2, .int (nI n)]) := (k11_ a1 (zne hF1_2 hFa rfl)).trans hF1_2
            have kc14_ : ∀ b, b ≠ (ad k) → F6_ b = F2 b := fun b q0 => k11_ b q0
            refine z_stk (st' := [.int (nI (tkV (fMw (fd k)) (fOf (fd k)) (fCo (fd k)))), .int (nI (smV (fun i => reT sb i (fd i)) k))]) rfl ?_
            refine z_iadd C (nI (smV (fun i => reT sb i (fd i)) k + tkV (fMw (fd k)) (fOf (fd k)) (fCo (fd k)))) dX2_relieve_70 (nI_add (smV (fun i => reT sb i (fd i)) k) (tkV (fMw (fd k)) (fOf (fd k)) (fCo (fd k)))) ?_
            refine z_istore_n (lv' := [(3, .int (nI (smV (fun i => reT sb i (fd i)) k + tkV (fMw (fd k)) (fOf (fd k)) (fCo (fd k))))), (0, .ref a0), (1, .int (nI sf)), (2, .int (nI sb)), (4, .int (nI k))]) C dX2_relieve_71 rfl (by decide) rfl ?_
            refine z_iinc (v := nI (k + 1)) (lv' := [(4, .int (nI (k + 1))), (3, .int (nI (smV (fun i => reT sb i (fd i)) k + tkV (fMw (fd k)) (fOf (fd k)) (fCo (fd k))))), (0, .ref a0), (1, .int (nI sf)), (2, .int (nI sb))]) C dX2_relieve_72 4 rfl (nI_add k 1) (by decide) rfl ?_
            refine z_goto C 33 dX2_relieve_75 (by decide) ?_
            refine z_lvs (lv' := [(4, .int (nI (k + 1))), (3, .int (nI (smV (fun i => reT sb i (fd i)) (k + 1)))), (0, .ref a0), (1, .int (nI sf)), (2, .int (nI sb))]) (by rw [smV_s, show reT sb k (fd k) = fTk (fd k) from by rw [reT, if_pos (by omega)]]; rfl) ?_
            have hco3 := hco2.one hlt (fOff_ok hOk) h10_ kc14_
            rw [fdK_s (fun i r => reG sb i r) fd k (by show reG sb k (fd k) = fOff (fd k); rw [reG, if_pos (by omega)])] at hco3
            refine z_sub (lv' := [(0, .ref a0), (1, .int (nI sf)), (2, .int (nI sb)), (3, .int (nI (smV (fun i => reT sb i (fd i)) (k + 1)))), (4, .int (nI (k + 1)))]) [2, 3, 4, 1, 0] rfl ?_
            exact ih33 (k + 1) F6_ (by omega) hco3 (fun b hb => (kc14_ b (hco2.apart hb k hlt)).trans (hkM b hb)) (by omega)
    exact lp33 _ 0 F8 (Nat.zero_le _) hcoA hkM (Nat.lt_succ_self _)
  · -- 15 not taken
    refine z_throwN (text := "all feeders that are on and not critical take less") (ik := 77) (is := 79) (ic := 81) C rfl (by decide +kernel) (by decide +kernel) (by decide +kernel) (by decide +kernel) (by decide +kernel) (by decide +kernel) (by decide +kernel) dX2_relieve_18 dX2_relieve_21 dX2_relieve_22 dX2_relieve_24 dX2_relieve_27 hout (Nat.le_of_ble_eq_true rfl) (Nat.le_of_ble_eq_true rfl) (Nat.le_of_ble_eq_true rfl) (Nat.le_of_ble_eq_true rfl) (Nat.le_of_ble_eq_true rfl) (Nat.le_of_ble_eq_true rfl) ?_
    obtain rfl : sb = 0 := by omega
    exact Or.inr ⟨sf, hvsf, hsf1, hsf2, rfl, hB, rfl, hco2, hkM⟩

set_option maxHeartbeats 4000000 in
set_option maxRecDepth 100000 in
theorem c_X2_rotate (l : Launch) (hlst : l.stackTraces = false) (G : zGt) (L : List Nat) (F : Nat → va_E) (M : Nat → Prop) (a0 a1 a2 b4 b5 b6 b7 : Nat) (ad : Nat → Nat) (n now sl : Nat) (fd : Nat → FdT) (hco : zCo G M L F a0 a1 a2 b4 b5 b6 b7 ad n now sl fd)  : zX l yX2_rotate wsX2_rotate 22 661 1 6 G L F [.ref a0] (fun rv L1 F1 => ∃ b : Nat, 0 < (smV (fun j => rtV (fd j)) n) ∧ rv = some (.int (nI (smV (fun i => swT (fd i)) n))) ∧ isB n fd sl (smV (fun j => rtV (fd j)) n) b ∧ b ≠ 0 ∧ L1 = L ∧ zCo G M L F1 a0 a1 a2 b4 b5 b6 b7 ad n now sl (fdK (fun i r => swG b i r) fd n) ∧ ∀ b, M b → F1 b = F b) (fun E L1 F1 => (L1 = L ∧ F1 = F ∧ E = "java/lang/IllegalStateException" ∧ (smV (fun j => rtV (fd j)) n) = 0) ∨ (E = "java/util/NoSuchElementException" ∧ 0 < (smV (fun j => rtV (fd j)) n) ∧ isB n fd sl (smV (fun j => rtV (fd j)) n) 0 ∧ L1 = L ∧ zCo G M L F1 a0 a1 a2 b4 b5 b6 b7 ad n now sl fd ∧ ∀ b, M b → F1 b = F b)) := by
  obtain ⟨⟨hL0, hL1, hL2, hL4, hL5, hL6, hL7⟩, hF0, ⟨mo, ea, nn, fe, hF1, hFe, hfe, hMe⟩, hSr, hNb, hFd, hIj, ⟨hn, hnow, hsl⟩, hM0, hM1, hM2, hM4, hM5, hM6, hM7⟩ := id hco
  refine z_ofX (cc := cX2_rotate) (nL := 3) (ret := (some .int)) (own := RX2) hlst (by decide +kernel) rfl rfl (Nat.le_of_ble_eq_true rfl) ?_
  intro p e s m below meth c A hout C
  refine z_lvs (lv' := [(0, .ref a0)]) rfl ?_
  have hrs : smV (fun j => rtV (fd j)) n ≤ n * 1998 := smV_le (fun j hj => by
    have h9 := fRs_le (hFd j hj).2.2.1
    show rtV (fd j) ≤ 1998
    unfold rtV; split <;> omega)
  refine z_aload_n C dX2_rotate_0 rfl 0 rfl ?_
  refine z_callV (As := []) (st := []) (mc := 0) (ms := 0) C hL0 hF0 rfl (c_X2_takenByReturning l hlst G L F M a0 a1 a2 b4 b5 b6 b7 ad n now sl fd hco) (cwV 0 C.1.2.2.2.2 gX2_rotate_X2_takenByReturning rfl rfl rfl (by decide +kernel) ⟨Nat.le_of_ble_eq_true rfl, Nat.le_of_ble_eq_true rfl⟩) rfl (Nat.le_of_ble_eq_true rfl) ⟨Nat.le_of_ble_eq_true rfl, Nat.le_of_ble_eq_true rfl⟩ dX2_rotate_1 (z_p ?_)
  refine z_stk (st' := [.int (nI (smV (fun j => rtV (fd j)) n))]) rfl ?_
  refine z_istore_n (lv' := [(1, .int (nI (smV (fun j => rtV (fd j)) n))), (0, .ref a0)]) C dX2_rotate_4 rfl (by decide) rfl ?_
  refine z_iload_n C dX2_rotate_5 rfl 0 rfl ?_
  refine z_if_ne C 19 (((smV (fun j => rtV (fd j)) n : Nat) : Int) = (0 : Int)) (zi_eq (zi_N (n := smV (fun j => rtV (fd j)) n) (by omega)) zi_0) dX2_rotate_6 (by decide) (fun c1_ => ?_) (fun c1_ => ?_)
  · -- 6 taken
    refine z_aload_n C dX2_rotate_19 rfl 1 rfl ?_
    refine z_iload_n C dX2_rotate_20 rfl 0 rfl ?_
    refine z_callV (As := [.int (nI (smV (fun j => rtV (fd j)) n))]) (st := []) (mc := 0) (ms := 0) C hL0 hF0 rfl (c_X2_chosenFor l hlst G L F M a0 a1 a2 b4 b5 b6 b7 ad n now sl fd hco (smV (fun j => rtV (fd j)) n) ⟨by omega, by omega⟩) (cwV 1 C.1.2.2.2.2 gX2_rotate_X2_chosenFor rfl rfl rfl (by decide +kernel) ⟨Nat.le_of_ble_eq_true rfl, Nat.le_of_ble_eq_true rfl⟩) rfl (Nat.le_of_ble_eq_true rfl) ⟨Nat.le_of_ble_eq_true rfl, Nat.le_of_ble_eq_true rfl⟩ dX2_rotate_21 (fun rv8 L8 F8 hp8 => ?_)
    obtain ⟨sb, e81, hB, hsb, e82, hco2, hkM⟩ := hp8
    rw [e81, e82]
    refine z_stk (st' := [.int (nI sb)]) rfl ?_
    obtain ⟨⟨hL0_8, hL1_8, hL2_8, hL4_8, hL5_8, hL6_8, hL7_8⟩, hF0_8, ⟨mo_8, ea_8, nn_8, fe_8, hF1_8, hFe_8, hfe_8, hMe_8⟩, hSr_8, hNb_8, hFd_8, hIj_8, ⟨hn_8, hnow_8, hsl_8⟩, hM0_8, hM1_8, hM2_8, hM4_8, hM5_8, hM6_8, hM7_8⟩ := id hco2
    refine z_istore_n (lv' := [(2, .int (nI sb)), (1, .int (nI (smV (fun j => rtV (fd j)) n))), (0, .ref a0)]) C dX2_rotate_24 rfl (by decide) rfl ?_
    refine z_iload_n C dX2_rotate_25 rfl 0 rfl ?_
    refine z_if_ne C 39 (((sb : Nat) : Int) = (0 : Int)) (zi_eq (zi_N (n := sb) (by omega)) zi_0) dX2_rotate_26 (by decide) (fun c2_ => ?_) (fun c2_ => ?_)
    · -- 26 taken
      refine z_aload_n C dX2_rotate_39 rfl 2 rfl ?_
      refine z_iload_n C dX2_rotate_40 rfl 0 rfl ?_
      refine z_callV (As := [.int (nI sb)]) (st := []) (mc := 0) (ms := 0) C hL0_8 hF0_8 rfl (c_X2_swapFor l hlst G L F8 M a0 a1 a2 b4 b5 b6 b7 ad n now sl fd hco2 sb hsb) (cwV 1 C.1.2.2.2.2 gX2_rotate_X2_swapFor rfl rfl rfl (by decide +kernel) ⟨Nat.le_of_ble_eq_true rfl, Nat.le_of_ble_eq_true rfl⟩) rfl (Nat.le_of_ble_eq_true rfl) ⟨Nat.le_of_ble_eq_true rfl, Nat.le_of_ble_eq_true rfl⟩ dX2_rotate_41 (fun rv9 L9 F9 hp9 => ?_)
      obtain ⟨e91, e92, hco9, hk9⟩ := hp9
      rw [e91, e92]
      refine z_stk (st' := [.int (nI (smV (fun i => swT (fd i)) n))]) rfl ?_
      refine z_iret C rfl rfl (by decide) (by decide) dX2_rotate_44 ?_
      exact ⟨sb, by omega, rfl, hB, by omega, rfl, hco9, fun b hb => (hk9 b hb).trans (hkM b hb)⟩
    · -- 26 not taken
      refine z_throwN (text := "all feeders that are on and not critical take less") (ik := 77) (is := 79) (ic := 81) C rfl (by decide +kernel) (by decide +kernel) (by decide +kernel) (by decide +kernel) (by decide +kernel) (by decide +kernel) (by decide +kernel) dX2_rotate_29 dX2_rotate_32 dX2_rotate_33 dX2_rotate_35 dX2_rotate_38 hout (Nat.le_of_ble_eq_true rfl) (Nat.le_of_ble_eq_true rfl) (Nat.le_of_ble_eq_true rfl) (Nat.le_of_ble_eq_true rfl) (Nat.le_of_ble_eq_true rfl) (Nat.le_of_ble_eq_true rfl) ?_
      obtain rfl : sb = 0 := by omega
      exact Or.inr ⟨rfl, by omega, hB, rfl, hco2, hkM⟩
  · -- 6 not taken
    refine z_throw (cls := "java/lang/IllegalStateException") (text := "no feeder is cut that is not critical") (ik := 38) (is := 92) (ic := 42) C rfl (by decide +kernel) (by decide +kernel) (by decide +kernel) (by decide +kernel) ["java/lang/RuntimeException", "java/lang/Exception"] (by decide +kernel) (by decide +kernel) (by decide +kernel) (by decide +kernel) (by decide +kernel) dX2_rotate_9 dX2_rotate_12 dX2_rotate_13 dX2_rotate_15 dX2_rotate_18 hout (Nat.le_of_ble_eq_true rfl) (Nat.le_of_ble_eq_true rfl) (Nat.le_of_ble_eq_true rfl) (Nat.le_of_ble_eq_true rfl) (Nat.le_of_ble_eq_true rfl) (Nat.le_of_ble_eq_true rfl) ?_
    exact Or.inl ⟨rfl, rfl, rfl, by omega⟩
end
section
section ZF
variable {p : Program} {l : Launch} {e : Env} {R : Room} {s : State} {m : MethodId} {args : Array Value} {below : List Frame} {meth : Method} {c : Code} {cc : ByteArray} {nL : Nat} {Ts : List Cond} {own : String} {ret : Option FieldType} {G : zGt} {A : Nat → Prop} {Q : State → Prop} {ce sl : Nat} {L : List Nat} {F : Nat → va_E} {pc : Nat} {lv : List (Nat × Value)} {st : List Value}
theorem z_tout (C : zC p l s m args meth c cc nL Ts own ret G A) (kk : (∀ b, b ∈ L → b ≠ G.2.2.2.2.1) → zW p l e R s m args below meth c nL G A Q ce sl L F pc lv st) : zW p l e R s m args below meth c nL G A Q ce sl L F pc lv st := fun H locs ls hP hD hS hl => kk (fun b hb e9 => va_T.out C.2.2.2.2.1.1.2.2.2 (e9 ▸ zD_in hD b hb)) H locs ls hP hD hS hl
end ZF
theorem zCo.grow {G : zGt} {M : Nat → Prop} {L L1 : List Nat} {F F1 : Nat → va_E} {a0 a1 a2 b4 b5 b6 b7 : Nat} {ad : Nat → Nat} {n now sl : Nat} {fd : Nat → FdT} (h : zCo G M L F a0 a1 a2 b4 b5 b6 b7 ad n now sl fd) (hM : ∀ b, M b → b ∈ L) {q : Nat} (hq : q ∉ L) (hLs : ∀ b, b ∈ L → b ∈ L1) (hq1 : q ∈ L1)
    {mo' : Int32} {ea' N' : Nat} {f' : Nat → Option Nat} (hea : ea' ∈ L1) (hFea : F1 ea' = .inl (G.2.2.1, N', .inr (.inr (.inr (.inr f'))))) (hN : n + 1 ≤ N') (hcap : N' = 10 ∨ N' = 15) (hf : ∀ k, k < n → f' k = some (ad k)) (hfn : f' n = some q) (h1 : F1 a1 = .inr (0, [.int mo', .ref ea', .int (nI (n + 1))]))
    (hk : ∀ b, b ∈ L → b ≠ a1 → zk (F b) ≠ 102 → F1 b = F b) {r : FdT} (hFq : F1 q = fdE r) (hr : fOk now r) (hn : n < 12) (hMe : ¬ M ea') : zCo G M L1 F1 a0 a1 a2 b4 b5 b6 b7 (va_up ad n q) (n + 1) now sl (upF fd n r) := by
  obtain ⟨⟨l0, l1, l2, l4, l5, l6, l7⟩, h2, h3, h4, h5, h6, h7, h8, h9⟩ := h
  obtain ⟨f4, f5, f6, f7, cnt, sf, nl, bs, bt, bh, g1, ⟨g4, g5, g6, g7⟩, g8⟩ := h4
  obtain ⟨mo, ea, nn, fe, e1, -⟩ := h3
  have kk : ∀ b e, b ∈ L → F b = e → zk e ≠ 0 → zk e ≠ 102 → F1 b = e := fun b e hb he z0 z1 => (hk b hb (fun q9 => z0 (by rw [← he, q9, e1]; rfl)) (by rw [he]; exact z1)).trans he
  have hqa : ∀ j, j < n → ad j ≠ q := fun j hj q9 => hq (q9 ▸ (h6 j hj).1)
  refine ⟨⟨hLs _ l0, hLs _ l1, hLs _ l2, hLs _ l4, hLs _ l5, hLs _ l6, hLs _ l7⟩, kk _ _ l0 h2 (Nat.ne_of_beq_eq_false rfl) (Nat.ne_of_beq_eq_false rfl), ⟨mo', ea', N', f', h1, Or.inr ⟨hea, hFea, hN, hcap⟩, fun k hk9 => ?_, fun _ => hMe⟩,
    ⟨f4, f5, f6, f7, cnt, sf, nl, bs, bt, bh, kk _ _ l2 g1 (Nat.ne_of_beq_eq_false rfl) (Nat.ne_of_beq_eq_false rfl), ⟨kk _ _ l4 g4 (Nat.ne_of_beq_eq_false rfl) (Nat.ne_of_beq_eq_false rfl), kk _ _ l5 g5 (Nat.ne_of_beq_eq_false rfl) (Nat.ne_of_beq_eq_false rfl), kk _ _ l6 g6 (Nat.ne_of_beq_eq_false rfl) (Nat.ne_of_beq_eq_false rfl), kk _ _ l7 g7 (Nat.ne_of_beq_eq_false rfl) (Nat.ne_of_beq_eq_false rfl)⟩, g8⟩, h5, fun k hk9 => ?_, fun i j hi hj e9 => ?_, ⟨by omega, h8.2⟩, h9⟩
  · by_cases e : k = n
    · subst e; rw [va_up_self]; exact hfn
    · rw [va_up_ne _ _ e]; exact hf k (by omega)
  · unfold upF
    by_cases e : k = n
    · subst e; rw [va_up_self, if_pos rfl]; exact ⟨hq1, hFq, hr, fun m9 => hq (hM _ m9)⟩
    · rw [va_up_ne _ _ e, if_neg e]
      obtain ⟨q1, q2, q3, q4⟩ := h6 k (by omega)
      exact ⟨hLs _ q1, kk _ _ q1 q2 (Nat.ne_of_beq_eq_false rfl) (Nat.ne_of_beq_eq_false rfl), q3, q4⟩
  · by_cases ei : i = n <;> by_cases ej : j = n
    · omega
    · subst ei; rw [va_up_self, va_up_ne _ _ ej] at e9; exact absurd e9.symm (hqa j (by omega))
    · subst ej; rw [va_up_self, va_up_ne _ _ ei] at e9; exact absurd e9 (hqa i (by omega))
    · rw [va_up_ne _ _ ei, va_up_ne _ _ ej] at e9; exact h7 i j (by omega) (by omega) e9

set_option maxRecDepth 100000 in
theorem hin_X2_feeder_X0 : ∀ w ∈ u_ws RX0 TX0 7, w ∈ wsX2_feeder := by decide +kernel
set_option maxRecDepth 100000 in
theorem hin_X2_feeder_X2 : ∀ w ∈ u_ws RX2 TX2 4, w ∈ wsX2_feeder := by decide +kernel
set_option maxHeartbeats 4000000 in
set_option maxRecDepth 100000 in
theorem c_X2_feeder (l : Launch) (hlst : l.stackTraces = false) (G : zGt) (L : List Nat) (F : Nat → va_E) (M : Nat → Prop) (a0 a1 a2 b4 b5 b6 b7 : Nat) (ad : Nat → Nat) (n now sl : Nat) (fd : Nat → FdT) (hco : zCo G M L F a0 a1 a2 b4 b5 b6 b7 ad n now sl fd) (v1 v3 : Int32) (c9 : Nat) (hc9b : c9 ≤ 1) (hML : ∀ b, M b → b ∈ L) : zX l yX2_feeder wsX2_feeder 8 155 4 34 G L F [.ref a0, .int v1, .int (nI c9), .int v3] (fun rv L1 F1 => ∃ j1 j3 : Nat, v1 = nI j1 ∧ 1 ≤ j1 ∧ j1 ≤ 999 ∧ v3 = nI j3 ∧ j3 ≤ 3 ∧ n < 12 ∧ rv = some (.int (nI n)) ∧ (∀ b, b ∈ L → b ∈ L1) ∧ (∃ ad' : Nat → Nat, zCo G M L1 F1 a0 a1 a2 b4 b5 b6 b7 ad' (n + 1) now sl (upF fd n (j3, j1, c9, 0, 0, 0, 0))) ∧ ∀ b, M b → F1 b = F b) (fun E L1 F1 => L1 = L ∧ F1 = F ∧ ((E = "java/lang/IllegalArgumentException" ∧ ¬ (zIn 1 999 v1 ∧ zIn 0 3 v3)) ∨ (E = "java/lang/IllegalStateException" ∧ zIn 1 999 v1 ∧ zIn 0 3 v3 ∧ n = 12))) := by
  obtain ⟨⟨hL0, hL1, hL2, hL4, hL5, hL6, hL7⟩, hF0, ⟨mo, ea, nn, fe, hF1, hFe, hfe, hMe⟩, hSr, hNb, hFd, hIj, ⟨hn, hnow, hsl⟩, hM0, hM1, hM2, hM4, hM5, hM6, hM7⟩ := id hco
  refine z_ofX (cc := cX2_feeder) (nL := 4) (ret := (some .int)) (own := RX2) hlst (by decide +kernel) rfl rfl (Nat.le_of_ble_eq_true rfl) ?_
  intro p e s m below meth c A hout C
  refine z_lvs (lv' := [(0, .ref a0), (1, .int v1), (2, .int (nI c9)), (3, .int v3)]) rfl ?_
  refine z_tout C (fun hT0 => ?_)
  refine z_iload_n C dX2_feeder_0 rfl 1 rfl ?_
  refine z_iconst C (nI 1) dX2_feeder_1 (by decide) ?_
  refine z_sipush C (nI 999) dX2_feeder_2 (by decide) ?_
  refine z_callSX (As := [.int v1, .int (nI 1), .int (nI 999)]) (st := []) (mc := 1) (ms := 6) C (c_X2_requireWithin l hlst G L F v1 1 999 (by decide) (by decide)) (va_cwS 3 C.1.2.2.2.2 gX2_feeder_X2_requireWithin rfl rfl rfl (by decide +kernel) ⟨Nat.le_of_ble_eq_true rfl, Nat.le_of_ble_eq_true rfl⟩) rfl (Nat.le_of_ble_eq_true rfl) ⟨Nat.le_of_ble_eq_true rfl, Nat.le_of_ble_eq_true rfl⟩ dX2_feeder_5 (z_xo C hout (Nat.le_of_ble_eq_true rfl) (Nat.le_of_ble_eq_true rfl) (fun E9 L9 F9 hx => ⟨hx.1, hx.2.1, Or.inl ⟨hx.2.2.1, fun h9 => hx.2.2.2 h9.1⟩⟩)) (z_pp (fun hin5 => ?_))
  refine z_stk (st' := []) rfl ?_
  obtain ⟨j1, hvj1, hj11, hj12⟩ := zIn_of hin5
  refine z_lvs (lv' := [(0, .ref a0), (1, .int (nI j1)), (2, .int (nI c9)), (3, .int v3)]) (by rw [hvj1]) ?_
  refine z_iload_n C dX2_feeder_8 rfl 3 rfl ?_
  refine z_iconst C (nI 0) dX2_feeder_9 (by decide) ?_
  refine z_iconst C (nI 3) dX2_feeder_10 (by decide) ?_
  refine z_callSX (As := [.int v3, .int (nI 0), .int (nI 3)]) (st := []) (mc := 1) (ms := 6) C (c_X2_requireWithin l hlst G L F v3 0 3 (by decide) (by decide)) (va_cwS 3 C.1.2.2.2.2 gX2_feeder_X2_requireWithin rfl rfl rfl (by decide +kernel) ⟨Nat.le_of_ble_eq_true rfl, Nat.le_of_ble_eq_true rfl⟩) rfl (Nat.le_of_ble_eq_true rfl) ⟨Nat.le_of_ble_eq_true rfl, Nat.le_of_ble_eq_true rfl⟩ dX2_feeder_11 (z_xo C hout (Nat.le_of_ble_eq_true rfl) (Nat.le_of_ble_eq_true rfl) (fun E9 L9 F9 hx => ⟨hx.1, hx.2.1, Or.inl ⟨hx.2.2.1, fun h9 => hx.2.2.2 h9.2⟩⟩)) (z_pp (fun hin11 => ?_))
  refine z_stk (st' := []) rfl ?_
  obtain ⟨j3, hvj3, hj31, hj32⟩ := zIn_of hin11
  refine z_lvs (lv' := [(0, .ref a0), (1, .int (nI j1)), (2, .int (nI c9)), (3, .int (nI j3))]) (by rw [hvj3]) ?_
  refine z_aload_n C dX2_feeder_14 rfl 0 rfl ?_
  refine z_get (ref := "Shedwheel") (v := .ref a1) C hin_X2_feeder_X2 hL0 hF0 rfl 0 (by decide) (by decide +kernel) (fun _ h9 => h9) rfl dX2_feeder_15 ?_
  refine z_callV (As := []) (st := []) (mc := 0) (ms := 0) C hL1 hF1 rfl (c_Jx4a65c_size_8abf5 l hlst G L F a1 mo ea n hL1 hF1 ) (cwV 0 C.1.2.2.2.2 gX2_feeder_Jx4a65c_size_8abf5 rfl rfl rfl (by decide +kernel) ⟨Nat.le_of_ble_eq_true rfl, Nat.le_of_ble_eq_true rfl⟩) rfl (Nat.le_of_ble_eq_true rfl) ⟨Nat.le_of_ble_eq_true rfl, Nat.le_of_ble_eq_true rfl⟩ dX2_feeder_18 (z_p ?_)
  refine z_stk (st' := [.int (nI n)]) rfl ?_
  refine z_bipush C (nI 12) dX2_feeder_21 (by decide) ?_
  refine z_icmp_lt C 36 (((n : Nat) : Int) < ((12 : Nat) : Int)) (zi_lt (zi_N (n := n) (by omega)) (zi_N (n := 12) (by omega))) dX2_feeder_23 (by decide) (fun c1_ => ?_) (fun c1_ => ?_)
  · -- 23 taken
    refine z_aload_n C dX2_feeder_36 rfl 0 rfl ?_
    refine z_get (ref := "Shedwheel") (v := .ref a1) C hin_X2_feeder_X2 hL0 hF0 rfl 0 (by decide) (by decide +kernel) (fun _ h9 => h9) rfl dX2_feeder_37 ?_
    refine z_newO (ci := 1) (fs := [.int (nI 0), .int (nI 0), .int (nI 0), .int (nI 0), .int (nI 0), .int (nI 0), .int (nI 0)]) C hin_X2_feeder_X0 tyX0 tyX0_ok (by decide +kernel) (by decide +kernel) (by decide +kernel) rfl (fun j9 h9 => by rcases (show j9 = 0 ∨ j9 = 1 ∨ j9 = 2 ∨ j9 = 3 ∨ j9 = 4 ∨ j9 = 5 ∨ j9 = 6 by omega) with rfl | rfl | rfl | rfl | rfl | rfl | rfl <;> rfl) (Nat.le_of_ble_eq_true rfl) (Nat.le_of_ble_eq_true rfl) dX2_feeder_40 (fun q2_ F3_ hq4_ h5_ k6_ => ?_)
    have hL7_ : a0 ∈ (L ++ [q2_]) := List.mem_append_left _ hL0
    have nq8_ : a0 ≠ q2_ := fun h9 => hq4_ (h9 ▸ hL0)
    have hL9_ : a1 ∈ (L ++ [q2_]) := List.mem_append_left _ hL1
    have nq10_ : a1 ≠ q2_ := fun h9 => hq4_ (h9 ▸ hL1)
    have hL11_ : q2_ ∈ (L ++ [q2_]) := List.mem_append_right _ (List.mem_singleton.mpr rfl)
    have h12_ : F3_ a0 = .inr (3, [.ref a1, .ref a2, .int (nI now), .int (nI sl)]) := (k6_ a0 nq8_).trans hF0
    have h13_ : F3_ a1 = .inr (0, [.int mo, .ref ea, .int (nI n)]) := (k6_ a1 nq10_).trans hF1
    have kc14_ : ∀ b, b ≠ q2_ → F3_ b = F b := fun b q0 => k6_ b q0
    refine z_dup C dX2_feeder_43 rfl ?_
    refine z_iload_n C dX2_feeder_44 rfl 1 rfl ?_
    refine z_iload_n C dX2_feeder_45 rfl 2 rfl ?_
    refine z_iload_n C dX2_feeder_46 rfl 3 rfl ?_
    refine z_callIN (As := [.int (nI j1), .int (nI c9), .int (nI j3)]) (st := [.ref q2_, .ref a1]) (mc := 0) (ms := 0) C (c_X0_init l hlst G (L ++ [q2_]) F3_ q2_ 0 0 0 0 0 0 0 hL11_ h5_ j1 c9 j3 (by omega)) ⟨va_cnB 3 C.1.2.2.2.2 gX2_feeder_X0_init_n47 rfl rfl rfl (z_nl (host := RX2) C (by decide +kernel)) (C.1.2.2.2.2 _ (show Cond.initialized RX0 ∈ _ from (by decide +kernel))) (by decide +kernel) ⟨Nat.le_of_ble_eq_true rfl, Nat.le_of_ble_eq_true rfl⟩, rfl, C.1.2.2.2.2 _ (show Cond.instanceMethod yX0_init ∈ _ from (by decide +kernel))⟩ rfl (Nat.le_of_ble_eq_true rfl) ⟨Nat.le_of_ble_eq_true rfl, Nat.le_of_ble_eq_true rfl⟩ dX2_feeder_47 (fun rv15_ L16_ F17_ hp18_ => ?_)
    obtain ⟨e19_, e20_, h21_, k22_⟩ := hp18_
    rw [e19_, e20_]
    have h23_ : F17_ a0 = .inr (3, [.ref a1, .ref a2, .int (nI now), .int (nI sl)]) := (k22_ a0 nq8_).trans h12_
    have h24_ : F17_ a1 = .inr (0, [.int mo, .ref ea, .int (nI n)]) := (k22_ a1 nq10_).trans h13_
    have kc25_ : ∀ b, b ≠ q2_ → F17_ b = F b := fun b q0 => (k22_ b q0).trans (kc14_ b q0)
    refine z_stk (st' := [.ref q2_, .ref a1]) rfl ?_
    have hnq : ∀ b, b ∈ L → b ≠ q2_ := fun b hb e9 => hq4_ (e9 ▸ hb)
    have hok' : ((n = 0 ∧ ea = G.2.2.2.2.1) ∨ (ea ∈ (L ++ [q2_]) ∧ F17_ ea = .inl (G.2.2.1, nn, .inr (.inr (.inr (.inr fe)))) ∧ n ≤ nn ∧ (nn = 10 ∨ nn = 15))) := by
      rcases hFe with h9 | ⟨g1, g2, g3⟩
      · exact Or.inl h9
      · exact Or.inr ⟨List.mem_append_left _ g1, (kc25_ ea (hnq ea g1)).trans g2, g3⟩
    have hel' : ∀ i, i < n → ∀ y, fe i = some y → y ∈ (L ++ [q2_]) ∧ ∃ fs, F17_ y = .inr (1, fs) := fun i hi y hy => by
      rw [hfe i hi] at hy
      cases hy
      exact ⟨List.mem_append_left _ (hFd i hi).1, _, (kc25_ _ (hnq _ (hFd i hi).1)).trans (hFd i hi).2.1⟩
    refine z_tout C (fun hT9 => ?_)
    refine z_callV (As := [.ref q2_]) (st := []) (mc := 1) (ms := 15) C hL9_ h24_ rfl (c_Jx4a65c_add_9ea2d l hlst G (L ++ [q2_]) F17_ a1 mo ea n hL9_ h24_ nn fe (by omega) hok' hel' q2_ _ hL11_ h21_) (cwV 1 C.1.2.2.2.2 gX2_feeder_Jx4a65c_add_9ea2d rfl rfl rfl (by decide +kernel) ⟨Nat.le_of_ble_eq_true rfl, Nat.le_of_ble_eq_true rfl⟩) rfl (Nat.le_of_ble_eq_true rfl) ⟨Nat.le_of_ble_eq_true rfl, Nat.le_of_ble_eq_true rfl⟩ dX2_feeder_50 (fun rv9 L9 F9 hp9 => ?_)
    obtain ⟨ea9, nn9, f9, e91, hl9, hm9, hf9, hz9, hc9, ho9, hv9, h09, k9, hx9⟩ := hp9
    rw [e91]
    have hLs : ∀ b, b ∈ (L ++ [q2_]) → b ∈ L9 := fun b hb => (by rcases hl9 with rfl | ⟨q9, -, rfl⟩; exact hb; exact List.mem_append_left _ hb)
    have hne9 : ∀ b, b ∈ L → zk (F b) ≠ 102 → b ≠ ea := fun b hb hz e9 => (by
      rcases hFe with ⟨-, g2⟩ | ⟨-, g2, -⟩
      · exact hT0 b hb (e9.trans g2)
      · exact hz (by rw [e9, g2]; rfl))
    have hqe : q2_ ≠ ea := fun e9 => (by
      rcases hFe with ⟨-, g2⟩ | ⟨g1, -, -⟩
      · exact hT9 q2_ hL11_ (e9.trans g2)
      · exact hq4_ (e9 ▸ g1))
    have hk9 : ∀ b, b ∈ L → b ≠ a1 → zk (F b) ≠ 102 → F9 b = F b := fun b hb g1 g2 => (k9 b (List.mem_append_left _ hb) g1 (hne9 b hb g2)).trans (kc25_ b (hnq b hb))
    have hFq9 : F9 q2_ = .inr (1, [.int (nI j3), .int (nI j1), .int (nI c9), .int (nI 0), .int (nI 0), .int (nI 0), .int (nI 0)]) := (k9 q2_ hL11_ (Ne.symm nq10_) hqe).trans h21_
    have hF09 : F9 a0 = .inr (3, [.ref a1, .ref a2, .int (nI now), .int (nI sl)]) := (hk9 a0 hL0 (zne hF0 hF1 rfl) (by rw [hF0]; exact Nat.ne_of_beq_eq_false rfl)).trans hF0
    have hL09 := hLs a0 (List.mem_append_left _ hL0)
    have hL19 := hLs a1 (List.mem_append_left _ hL1)
    refine z_stk (st' := [.int (nI 1)]) rfl ?_
    refine z_pop C dX2_feeder_53 rfl ?_
    refine z_aload_n C dX2_feeder_54 rfl 0 rfl ?_
    refine z_get (ref := "Shedwheel") (v := .ref a1) C hin_X2_feeder_X2 hL09 hF09 rfl 0 (by decide) (by decide +kernel) (fun _ h9 => h9) rfl dX2_feeder_55 ?_
    refine z_callV (As := []) (st := []) (mc := 0) (ms := 0) C hL19 h09 rfl (c_Jx4a65c_size_8abf5 l hlst G L9 F9 a1 ((mo + nI 1)) ea9 (n + 1) hL19 h09 ) (cwV 0 C.1.2.2.2.2 gX2_feeder_Jx4a65c_size_8abf5 rfl rfl rfl (by decide +kernel) ⟨Nat.le_of_ble_eq_true rfl, Nat.le_of_ble_eq_true rfl⟩) rfl (Nat.le_of_ble_eq_true rfl) ⟨Nat.le_of_ble_eq_true rfl, Nat.le_of_ble_eq_true rfl⟩ dX2_feeder_58 (z_p ?_)
    refine z_stk (st' := [.int (nI (n + 1))]) rfl ?_
    refine z_iconst C (nI 1) dX2_feeder_61 (by decide) ?_
    refine z_isub C (nI n) dX2_feeder_62 (pk_sub (a := n + 1) (b := 1) (by omega)) ?_
    refine z_iret C rfl rfl (by decide) (by decide) dX2_feeder_63 ?_
    have hMe9 : ¬ M ea9 := fun m9 => (by
      rcases hx9 with rfl | g1
      · rcases hFe with ⟨-, g2⟩ | ⟨g1, -, -⟩
        · exact hT0 _ (hML _ m9) g2
        · exact hMe g1 m9
      · exact g1 (List.mem_append_left _ (hML _ m9)))
    have hco9 := hco.grow hML hq4_ (fun b hb => hLs b (List.mem_append_left _ hb)) (hLs q2_ hL11_) hm9 hf9 hz9 hc9 (fun k hk => (ho9 k hk).trans (hfe k hk)) hv9 h09 hk9 (r := (j3, j1, c9, 0, 0, 0, 0)) hFq9 ⟨hj32, hj11, hj12, hc9b, Nat.zero_le _, Nat.zero_le _, Nat.zero_le _, Nat.zero_le _⟩ (by omega) hMe9
    have hM102 : ∀ b, M b → b ≠ a1 := fun b hb e9 => hM1 (e9 ▸ hb)
    exact ⟨j1, j3, hvj1, hj11, hj12, hvj3, hj32, by omega, rfl, fun b hb => hLs b (List.mem_append_left _ hb), ⟨_, hco9⟩, fun b hb => (k9 b (List.mem_append_left _ (hML b hb)) (hM102 b hb) (fun e9 => (by
      rcases hFe with ⟨-, g2⟩ | ⟨g1, -, -⟩
      · exact hT0 b (hML b hb) (e9.trans g2)
      · exact hMe g1 (e9 ▸ hb)))).trans (kc25_ b (hnq b (hML b hb)))⟩
  · -- 23 not taken
    refine z_throw (cls := "java/lang/IllegalStateException") (text := "there are 12 feeders") (ik := 38) (is := 40) (ic := 42) C rfl (by decide +kernel) (by decide +kernel) (by decide +kernel) (by decide +kernel) ["java/lang/RuntimeException", "java/lang/Exception"] (by decide +kernel) (by decide +kernel) (by decide +kernel) (by decide +kernel) (by decide +kernel) dX2_feeder_26 dX2_feeder_29 dX2_feeder_30 dX2_feeder_32 dX2_feeder_35 hout (Nat.le_of_ble_eq_true rfl) (Nat.le_of_ble_eq_true rfl) (Nat.le_of_ble_eq_true rfl) (Nat.le_of_ble_eq_true rfl) (Nat.le_of_ble_eq_true rfl) (Nat.le_of_ble_eq_true rfl) ?_
    exact ⟨rfl, rfl, Or.inr ⟨rfl, hin5, hin11, by omega⟩⟩

set_option maxRecDepth 100000 in
theorem hin_X2_init_Jx4a65c : ∀ w ∈ u_ws RJx4a65c TJx4a65c 3, w ∈ wsX2_init := by decide +kernel
set_option maxRecDepth 100000 in
theorem hin_X2_init_X1 : ∀ w ∈ u_ws RX1 TX1 10, w ∈ wsX2_init := by decide +kernel
set_option maxRecDepth 100000 in
theorem hin_X2_init_X2 : ∀ w ∈ u_ws RX2 TX2 4, w ∈ wsX2_init := by decide +kernel
set_option maxHeartbeats 4000000 in
set_option maxRecDepth 100000 in
theorem c_X2_init (l : Launch) (hlst : l.stackTraces = false) (G : zGt) (L : List Nat) (F : Nat → va_E) (M : Nat → Prop) (a0 : Nat) (hL0 : a0 ∈ L) (hF0 : F a0 = .inr (3, [.null, .null, .int (nI 0), .int (nI 0)])) (hMs : ∀ b, M b → b ∈ L ∧ b ≠ a0) : zM l yX2_init wsX2_init 4 84 6 62 G L F [.ref a0] (fun rv L1 F1 => ∃ (a1 a2 b4 b5 b6 b7 : Nat) (ad : Nat → Nat), rv = none ∧ (∀ b, b ∈ L → b ∈ L1) ∧ (∀ fd : Nat → FdT, zCo G M L1 F1 a0 a1 a2 b4 b5 b6 b7 ad 0 0 0 fd) ∧ ∀ b, b ∈ L → b ≠ a0 → F1 b = F b) := by
  refine z_of (cc := cX2_init) (nL := 1) (ret := none) (own := RX2) hlst (by decide +kernel) rfl rfl (Nat.le_of_ble_eq_true rfl) ?_
  intro p e s m below meth c A hnm C
  refine z_lvs (lv' := [(0, .ref a0)]) rfl ?_
  refine z_aload_n C dX2_init_0 rfl 0 rfl ?_
  refine z_obj (T9 := []) C (by decide +kernel) (by decide +kernel) (by decide +kernel) (Nat.le_of_ble_eq_true rfl) (Nat.le_of_ble_eq_true rfl) dX2_init_1 ?_
  refine z_aload_n C dX2_init_4 rfl 0 rfl ?_
  refine z_newO (ci := 0) (fs := [.int (nI 0), .null, .int (nI 0)]) C hin_X2_init_Jx4a65c tyJx4a65c tyJx4a65c_ok (by decide +kernel) (by decide +kernel) (by decide +kernel) rfl (fun j9 h9 => by rcases (show j9 = 0 ∨ j9 = 1 ∨ j9 = 2 by omega) with rfl | rfl | rfl <;> rfl) (Nat.le_of_ble_eq_true rfl) (Nat.le_of_ble_eq_true rfl) dX2_init_5 (fun q1_ F2_ hq3_ h4_ k5_ => ?_)
  have hL6_ : a0 ∈ (L ++ [q1_]) := List.mem_append_left _ hL0
  have nq7_ : a0 ≠ q1_ := fun h9 => hq3_ (h9 ▸ hL0)
  have hL8_ : q1_ ∈ (L ++ [q1_]) := List.mem_append_right _ (List.mem_singleton.mpr rfl)
  have h9_ : F2_ a0 = .inr (3, [.null, .null, .int (nI 0), .int (nI 0)]) := (k5_ a0 nq7_).trans hF0
  have kc10_ : ∀ b, b ≠ q1_ → F2_ b = F b := fun b q0 => k5_ b q0
  refine z_dup C dX2_init_8 rfl ?_
  refine z_callI (As := []) (st := [.ref q1_, .ref a0]) (mc := 0) (ms := 0) C (c_Jx4a65c_init_da8c8 l hlst G (L ++ [q1_]) F2_ q1_ hL8_ h4_) (cwI 0 C.1.2.2.2.2 gX2_init_Jx4a65c_init_da8c8 rfl rfl rfl (C.1.2.2.2.2 _ (show Cond.initialized RJx4a65c ∈ _ from (by decide +kernel))) (C.1.2.2.2.2 _ (show Cond.methodLink RX2 9 yJx4a65c_init_da8c8 ∈ _ from (by decide +kernel))) (C.1.2.2.2.2 _ (show Cond.instanceMethod yJx4a65c_init_da8c8 ∈ _ from (by decide +kernel))) rfl (by decide +kernel) ⟨Nat.le_of_ble_eq_true rfl, Nat.le_of_ble_eq_true rfl⟩) rfl (Nat.le_of_ble_eq_true rfl) ⟨Nat.le_of_ble_eq_true rfl, Nat.le_of_ble_eq_true rfl⟩ dX2_init_9 (fun rv11_ L12_ F13_ hp14_ => ?_)
  obtain ⟨e15_, e16_, h17_, k18_⟩ := hp14_
  rw [e15_, e16_]
  have h19_ : F13_ a0 = .inr (3, [.null, .null, .int (nI 0), .int (nI 0)]) := (k18_ a0 nq7_).trans h9_
  have kc20_ : ∀ b, b ≠ q1_ → F13_ b = F b := fun b q0 => (k18_ b q0).trans (kc10_ b q0)
  refine z_stk (st' := [.ref q1_, .ref a0]) rfl ?_
  refine z_putF (ref := "Shedwheel") (v := .ref q1_) (fs' := [.ref q1_, .null, .int (nI 0), .int (nI 0)]) C hin_X2_init_X2 tyX2 tyX2_ok nmX2 hL6_ h19_ rfl 0 (by decide) (by decide +kernel) (fun _ h9 => h9) rfl hnm rfl rfl rfl (Nat.le_of_ble_eq_true rfl) rfl dX2_init_12 (fun F21_ h22_ k23_ => ?_)
  have h24_ : F21_ q1_ = .inr (0, [.int ((nI 0)), .ref G.2.2.2.2.1, .int (nI 0)]) := (k23_ q1_ (Ne.symm nq7_)).trans h17_
  have kc25_ : ∀ b, b ≠ a0 → b ≠ q1_ → F21_ b = F b := fun b q0 q1 => (k23_ b q0).trans (kc20_ b q1)
  refine z_aload_n C dX2_init_15 rfl 0 rfl ?_
  refine z_newO (ci := 2) (fs := [.null, .null, .null, .null, .int (nI 0), .int (nI 0), .int (nI 0), .int (nI 0), .int (nI 0), .int (nI 0)]) C hin_X2_init_X1 tyX1 tyX1_ok (by decide +kernel) (by decide +kernel) (by decide +kernel) rfl (fun j9 h9 => by rcases (show j9 = 0 ∨ j9 = 1 ∨ j9 = 2 ∨ j9 = 3 ∨ j9 = 4 ∨ j9 = 5 ∨ j9 = 6 ∨ j9 = 7 ∨ j9 = 8 ∨ j9 = 9 by omega) with rfl | rfl | rfl | rfl | rfl | rfl | rfl | rfl | rfl | rfl <;> rfl) (Nat.le_of_ble_eq_true rfl) (Nat.le_of_ble_eq_true rfl) dX2_init_16 (fun q26_ F27_ hq28_ h29_ k30_ => ?_)
  have hL31_ : a0 ∈ ((L ++ [q1_]) ++ [q26_]) := List.mem_append_left _ hL6_
  have nq32_ : a0 ≠ q26_ := fun h9 => hq28_ (h9 ▸ hL6_)
  have hL33_ : q1_ ∈ ((L ++ [q1_]) ++ [q26_]) := List.mem_append_left _ hL8_
  have nq34_ : q1_ ≠ q26_ := fun h9 => hq28_ (h9 ▸ hL8_)
  have hL35_ : q26_ ∈ ((L ++ [q1_]) ++ [q26_]) := List.mem_append_right _ (List.mem_singleton.mpr rfl)
  have h36_ : F27_ a0 = .inr (3, [.ref q1_, .null, .int (nI 0), .int (nI 0)]) := (k30_ a0 nq32_).trans h22_
  have h37_ : F27_ q1_ = .inr (0, [.int ((nI 0)), .ref G.2.2.2.2.1, .int (nI 0)]) := (k30_ q1_ nq34_).trans h24_
  have kc38_ : ∀ b, b ≠ a0 → b ≠ q1_ → b ≠ q26_ → F27_ b = F b := fun b q0 q1 q2 => (k30_ b q2).trans (kc25_ b q0 q1)
  refine z_dup C dX2_init_19 rfl ?_
  refine z_callIN (As := []) (st := [.ref q26_, .ref a0]) (mc := 4) (ms := 49) C (c_X1_init l hlst G ((L ++ [q1_]) ++ [q26_]) F27_ q26_ hL35_ h29_) ⟨va_cnB 0 C.1.2.2.2.2 gX2_init_X1_init_n18 rfl rfl rfl (z_nl (host := RX2) C (by decide +kernel)) (C.1.2.2.2.2 _ (show Cond.initialized RX1 ∈ _ from (by decide +kernel))) (by decide +kernel) ⟨Nat.le_of_ble_eq_true rfl, Nat.le_of_ble_eq_true rfl⟩, rfl, C.1.2.2.2.2 _ (show Cond.instanceMethod yX1_init ∈ _ from (by decide +kernel))⟩ rfl (Nat.le_of_ble_eq_true rfl) ⟨Nat.le_of_ble_eq_true rfl, Nat.le_of_ble_eq_true rfl⟩ dX2_init_20 (fun rv9 L9 F9 hp9 => ?_)
  obtain ⟨b4, b5, b6, b7, e91, e92, ⟨nb4, nb5, nb6, nb7⟩, hNb, hF29, hF39, k9⟩ := hp9
  rw [e91, e92]
  have hLs9 : ∀ b, b ∈ ((L ++ [q1_]) ++ [q26_]) → b ∈ ((((((L ++ [q1_]) ++ [q26_]) ++ [b4]) ++ [b5]) ++ [b6]) ++ [b7]) := fun b hb => List.mem_append_left _ (List.mem_append_left _ (List.mem_append_left _ (List.mem_append_left _ hb)))
  have hB4 : b4 ∈ ((((((L ++ [q1_]) ++ [q26_]) ++ [b4]) ++ [b5]) ++ [b6]) ++ [b7]) := List.mem_append_left _ (List.mem_append_left _ (List.mem_append_left _ (List.mem_append_right _ (List.mem_singleton.mpr rfl))))
  have hB5 : b5 ∈ ((((((L ++ [q1_]) ++ [q26_]) ++ [b4]) ++ [b5]) ++ [b6]) ++ [b7]) := List.mem_append_left _ (List.mem_append_left _ (List.mem_append_right _ (List.mem_singleton.mpr rfl)))
  have hB6 : b6 ∈ ((((((L ++ [q1_]) ++ [q26_]) ++ [b4]) ++ [b5]) ++ [b6]) ++ [b7]) := List.mem_append_left _ (List.mem_append_right _ (List.mem_singleton.mpr rfl))
  have hB7 : b7 ∈ ((((((L ++ [q1_]) ++ [q26_]) ++ [b4]) ++ [b5]) ++ [b6]) ++ [b7]) := List.mem_append_right _ (List.mem_singleton.mpr rfl)
  have h39_ : F9 a0 = .inr (3, [.ref q1_, .null, .int (nI 0), .int (nI 0)]) := (k9 a0 hL31_ nq32_).trans h36_
  have h40_ : F9 q1_ = .inr (0, [.int ((nI 0)), .ref G.2.2.2.2.1, .int (nI 0)]) := (k9 q1_ hL33_ nq34_).trans h37_
  have hL41_ := hLs9 a0 hL31_
  have hL42_ := hLs9 q1_ hL33_
  have hL43_ := hLs9 q26_ hL35_
  refine z_stk (st' := [.ref q26_, .ref a0]) rfl ?_
  refine z_putF (ref := "Shedwheel") (v := .ref q26_) (fs' := [.ref q1_, .ref q26_, .int (nI 0), .int (nI 0)]) C hin_X2_init_X2 tyX2 tyX2_ok nmX2 hL41_ h39_ rfl 1 (by decide) (by decide +kernel) (fun _ h9 => h9) rfl hnm rfl rfl rfl (Nat.le_of_ble_eq_true rfl) rfl dX2_init_23 (fun F44_ h45_ k46_ => ?_)
  have h47_ : F44_ q1_ = .inr (0, [.int ((nI 0)), .ref G.2.2.2.2.1, .int (nI 0)]) := (k46_ q1_ (Ne.symm nq7_)).trans h40_
  have h48_ : F44_ q26_ = .inr (2, [.ref b4, .ref b5, .ref b6, .ref b7, .int (nI 0), .int (nI 0), .int (nI 0), .int (nI 0), .int (nI 0), .int (nI 0)]) := (k46_ q26_ (Ne.symm nq32_)).trans hF29
  have kc49_ : ∀ b, b ≠ a0 → F44_ b = F9 b := fun b q0 => k46_ b q0
  refine z_aload_n C dX2_init_26 rfl 0 rfl ?_
  refine z_iconst C (nI 0) dX2_init_27 (by decide) ?_
  refine z_put (ref := "Shedwheel") (v := .int (nI 0)) (fs' := [.ref q1_, .ref q26_, .int (nI 0), .int (nI 0)]) C hin_X2_init_X2 tyX2 tyX2_ok nmX2 hL41_ h45_ rfl 2 (by decide) (by decide +kernel) (fun _ h9 => h9) rfl rfl rfl (Nat.le_of_ble_eq_true rfl) rfl dX2_init_28 (fun F50_ h51_ k52_ => ?_)
  have h53_ : F50_ q1_ = .inr (0, [.int ((nI 0)), .ref G.2.2.2.2.1, .int (nI 0)]) := (k52_ q1_ (Ne.symm nq7_)).trans h47_
  have h54_ : F50_ q26_ = .inr (2, [.ref b4, .ref b5, .ref b6, .ref b7, .int (nI 0), .int (nI 0), .int (nI 0), .int (nI 0), .int (nI 0), .int (nI 0)]) := (k52_ q26_ (Ne.symm nq32_)).trans h48_
  have kc55_ : ∀ b, b ≠ a0 → F50_ b = F9 b := fun b q0 => (k52_ b q0).trans (kc49_ b q0)
  refine z_aload_n C dX2_init_31 rfl 0 rfl ?_
  refine z_iconst C (nI 0) dX2_init_32 (by decide) ?_
  refine z_put (ref := "Shedwheel") (v := .int (nI 0)) (fs' := [.ref q1_, .ref q26_, .int (nI 0), .int (nI 0)]) C hin_X2_init_X2 tyX2 tyX2_ok nmX2 hL41_ h51_ rfl 3 (by decide) (by decide +kernel) (fun _ h9 => h9) rfl rfl rfl (Nat.le_of_ble_eq_true rfl) rfl dX2_init_33 (fun F56_ h57_ k58_ => ?_)
  have h59_ : F56_ q1_ = .inr (0, [.int ((nI 0)), .ref G.2.2.2.2.1, .int (nI 0)]) := (k58_ q1_ (Ne.symm nq7_)).trans h53_
  have h60_ : F56_ q26_ = .inr (2, [.ref b4, .ref b5, .ref b6, .ref b7, .int (nI 0), .int (nI 0), .int (nI 0), .int (nI 0), .int (nI 0), .int (nI 0)]) := (k58_ q26_ (Ne.symm nq32_)).trans h54_
  have kc61_ : ∀ b, b ≠ a0 → F56_ b = F9 b := fun b q0 => (k58_ b q0).trans (kc55_ b q0)
  refine z_tout C (fun hT9 => ?_)
  refine z_vret0 C rfl (by decide) (by decide) dX2_init_36 ?_
  have hq0 : ∀ b, b ∈ ((L ++ [q1_]) ++ [q26_]) → b ≠ a0 → b ≠ q26_ → F56_ b = F27_ b := fun b hb g1 g2 => (kc61_ b g1).trans (k9 b hb g2)
  have hB0 : ∀ b, b ∉ ((L ++ [q1_]) ++ [q26_]) → b ≠ a0 := fun b hb e9 => hb (e9 ▸ hL31_)
  obtain ⟨g4, g5, g6, g7⟩ := hF39
  have hML4 : ∀ b, M b → b ∈ ((L ++ [q1_]) ++ [q26_]) := fun b hb => List.mem_append_left _ (List.mem_append_left _ ((hMs b hb).1))
  refine ⟨q1_, q26_, b4, b5, b6, b7, fun _ => 0, rfl, fun b hb => hLs9 b (List.mem_append_left _ (List.mem_append_left _ (hb))), fun fd => ⟨⟨hL41_, hL42_, hL43_, hB4, hB5, hB6, hB7⟩, h57_, ⟨_, _, 0, fun _ => none, h59_, Or.inl ⟨rfl, rfl⟩, fun k hk => absurd hk (Nat.not_lt_zero k), fun h9 => ?_⟩, ⟨fun _ => 0, fun _ => 0, fun _ => 0, fun _ => 0, 0, 0, 0, 0, 0, 0, h60_, ⟨(kc61_ b4 (hB0 b4 nb4)).trans g4, (kc61_ b5 (hB0 b5 nb5)).trans g5, (kc61_ b6 (hB0 b6 nb6)).trans g6, (kc61_ b7 (hB0 b7 nb7)).trans g7⟩, rfl, by decide, by decide⟩, hNb, fun k hk => absurd hk (Nat.not_lt_zero k), fun i j hi => absurd hi (Nat.not_lt_zero i), ⟨by decide, by decide, by decide⟩, ⟨fun m9 => (hMs _ m9).2 rfl, fun m9 => hq3_ (hMs _ m9).1, fun m9 => hq28_ (List.mem_append_left _ (hMs _ m9).1), fun m9 => nb4 (hML4 _ m9), fun m9 => nb5 (hML4 _ m9), fun m9 => nb6 (hML4 _ m9), fun m9 => nb7 (hML4 _ m9)⟩⟩, fun b hb g1 => ?_⟩
  · exact absurd rfl (hT9 _ h9)
  · exact (hq0 b (List.mem_append_left _ (List.mem_append_left _ (hb))) g1 (fun e9 => hq28_ (List.mem_append_left _ (e9 ▸ hb)))).trans (kc38_ b g1 (fun e9 => hq3_ (e9 ▸ hb)) (fun e9 => hq28_ (List.mem_append_left _ (e9 ▸ hb))))
end
section
theorem sT_0 (g : Nat → FdT) : ∀ n, sT g 0 n = 0
  | 0 => rfl
  | n + 1 => by rw [sT, sT_0 g n]; unfold bitV; rw [Nat.zero_div]; rfl
theorem fRs_pos {now : Nat} {r : FdT} (h : fOk now r) : 1 ≤ fRs r := by
  obtain ⟨h1, h2, h3, h4, h5, h6, h7, h8⟩ := h
  unfold fRs rsV
  split
  · have : 1 * 100 ≤ fMw r * (100 + fCo r) := Nat.mul_le_mul h2 (by omega)
    omega
  · have : 1 * 100 ≤ fMw r * (100 + crV (fTh r)) := Nat.mul_le_mul h2 (by omega)
    omega
theorem key_mod (nl t h s : Nat) : keyV nl t h s % 4096 = s % 4096 := by
  unfold keyV; split <;> omega
theorem isB_one {n : Nat} {g : Nat → FdT} {sl sf a b : Nat} (hn : n ≤ 12) (h1 : 1 ≤ sf) (ha : isB n g sl sf a) (hb : isB n g sl sf b) : a = b := by
  have hp : 2 ^ n ≤ 2 ^ 12 := Nat.pow_le_pow_right (by decide) hn
  rw [show (2 : Nat) ^ 12 = 4096 from rfl] at hp
  rcases ha with ⟨a1, a2⟩ | ⟨a1, a2⟩ <;> rcases hb with ⟨b1, b2⟩ | ⟨b1, b2⟩
  · rw [a1, b1]
  · exact absurd b1 (a2 b)
  · exact absurd a1 (b2 a)
  · have e : kyS n g (sf + sl) a = kyS n g (sf + sl) b := Nat.le_antisymm (a2 b b1) (b2 a a1)
    have e1 := key_mod (sf + sl) (sT g a n) (sH g a n) a
    have e2 := key_mod (sf + sl) (sT g b n) (sH g b n) b
    have e3 : a % 4096 = b % 4096 := by rw [← e1, ← e2]; exact congrArg (· % 4096) e
    have := a1.1
    have := b1.1
    omega
theorem isB_free {n : Nat} {g : Nat → FdT} {sl sf b : Nat} (hb : isB n g sl sf b) {k : Nat} (hk : k < n) (h : bitV b k = 1) : fOf (g k) = 0 ∧ fCr (g k) = 0 := by
  rcases hb with ⟨rfl, -⟩ | ⟨h1, -⟩
  · unfold bitV at h; rw [Nat.zero_div] at h; exact absurd h (by decide)
  · exact h1.2.1 k hk h
theorem zCo.cl {G : zGt} {M : Nat → Prop} {L : List Nat} {F : Nat → va_E} {a0 a1 a2 b4 b5 b6 b7 : Nat} {ad : Nat → Nat} {n now sl : Nat} {fd : Nat → FdT} (h : zCo G M L F a0 a1 a2 b4 b5 b6 b7 ad n now sl fd) : zCl G M L F a0 n now sl fd := ⟨_, _, _, _, _, _, _, h⟩
-- small words
theorem nIe {a b : Nat} (ha : a < 2147483648) (hb : b < 2147483648) (h : nI a = nI b) : a = b := (nI_eq (by omega) (by omega)).mp h
theorem zIx_in {n k : Nat} {x : Int32} (hn : n ≤ 12) (hk : k < n) (hx : x = nI k) : zIx n x := by
  have h := nI_toInt (n := k) (by omega)
  unfold zIx
  rw [hx, h]
  omega
theorem zIn_in {lo hi j : Nat} {v : Int32} (h9 : hi < 2147483648) (h1 : lo ≤ j) (h2 : j ≤ hi) (hv : v = nI j) : zIn lo hi v := by
  have h := nI_toInt (n := j) (by omega)
  unfold zIn
  rw [hv, h]
  omega
theorem z_inA {p : Program} {l : Launch} {e : Env} {R : Room} {s : State} {m : MethodId} {args : Array Value} {below : List Frame} {meth : Method} {c : Code} {nL : Nat} {G : zGt} {A : Nat → Prop} {Q : State → Prop} {ce sl : Nat} {L : List Nat} {F : Nat → va_E} {pc : Nat} {lv : List (Nat × Value)} {st : List Value} (kk : (∀ q ∈ L, A q) → zW p l e R s m args below meth c nL G A Q ce sl L F pc lv st) : zW p l e R s m args below meth c nL G A Q ce sl L F pc lv st := fun H locs ls hP hD hS hl => kk (zD_in hD) H locs ls hP hD hS hl
end
section
set_option maxRecDepth 100000 in
theorem hin_mX2_feederOf_X2 : ∀ w ∈ u_ws RX2 TX2 4, w ∈ wsX2_feederOf := by decide +kernel
set_option maxHeartbeats 4000000 in
set_option maxRecDepth 100000 in
theorem m_X2_feederOf (l : Launch) (hlst : l.stackTraces = false) (G : zGt) (L : List Nat) (F : Nat → va_E) (M : Nat → Prop) (a0 a1 a2 b4 b5 b6 b7 : Nat) (ad : Nat → Nat) (n now sl : Nat) (fd : Nat → FdT) (hco : zCo G M L F a0 a1 a2 b4 b5 b6 b7 ad n now sl fd) (k : Nat) (hlt : k < n) : zM l yX2_feederOf wsX2_feederOf 10 154 0 0 G L F [.ref a0, .int (nI k)] (fun rv L1 F1 => rv = some (.ref (ad k)) ∧ L1 = L ∧ F1 = F) := by
  obtain ⟨⟨hL0, hL1, hL2, hL4, hL5, hL6, hL7⟩, hF0, ⟨mo, ea, nn, fe, hF1, hFe, hfe, hMe⟩, hSr, hNb, hFd, hIj, ⟨hn, hnow, hsl⟩, hM0, hM1, hM2, hM4, hM5, hM6, hM7⟩ := id hco
  refine z_of (cc := cX2_feederOf) (nL := 2) (ret := (some (.object "Shedwheel$Feeder"))) (own := RX2) hlst (by decide +kernel) rfl rfl (Nat.le_of_ble_eq_true rfl) ?_
  intro p e s m below meth c A hnm C
  refine z_lvs (lv' := [(0, .ref a0), (1, .int (nI k))]) rfl ?_
  refine z_iload_n C dX2_feederOf_0 rfl 1 rfl ?_
  refine z_if_lt C 15 (((k : Nat) : Int) < (0 : Int)) (zi_lt (zi_N (n := k) (by omega)) zi_0) dX2_feederOf_1 (by decide) (fun c1_ => absurd c1_ (by omega)) (fun c1_ => ?_)
  refine z_iload_n C dX2_feederOf_4 rfl 1 rfl ?_
  refine z_aload_n C dX2_feederOf_5 rfl 0 rfl ?_
  refine z_get (ref := "Shedwheel") (v := .ref a1) C hin_mX2_feederOf_X2 hL0 hF0 rfl 0 (by decide) (by decide +kernel) (fun _ h9 => h9) rfl dX2_feederOf_6 ?_
  refine z_callV (As := []) (st := [.int (nI k)]) (mc := 0) (ms := 0) C hL1 hF1 rfl (c_Jx4a65c_size_8abf5 l hlst G L F a1 mo ea n hL1 hF1 ) (cwV 0 C.1.2.2.2.2 gX2_feederOf_Jx4a65c_size_8abf5 rfl rfl rfl (by decide +kernel) ⟨Nat.le_of_ble_eq_true rfl, Nat.le_of_ble_eq_true rfl⟩) rfl (Nat.le_of_ble_eq_true rfl) ⟨Nat.le_of_ble_eq_true rfl, Nat.le_of_ble_eq_true rfl⟩ dX2_feederOf_9 (z_p ?_)
  refine z_stk (st' := [.int (nI n), .int (nI k)]) rfl ?_
  refine z_icmp_lt C 25 (((k : Nat) : Int) < ((n : Nat) : Int)) (zi_lt (zi_N (n := k) (by omega)) (zi_N (n := n) (by omega))) dX2_feederOf_12 (by decide) (fun c2_ => ?_) (fun c2_ => absurd c2_ (by omega))
  refine z_aload_n C dX2_feederOf_25 rfl 0 rfl ?_
  refine z_get (ref := "Shedwheel") (v := .ref a1) C hin_mX2_feederOf_X2 hL0 hF0 rfl 0 (by decide) (by decide +kernel) (fun _ h9 => h9) rfl dX2_feederOf_26 ?_
  refine z_iload_n C dX2_feederOf_29 rfl 1 rfl ?_
  obtain ⟨hLe, hGe, hnn, hcap⟩ : ea ∈ L ∧ F ea = .inl (G.2.2.1, nn, .inr (.inr (.inr (.inr fe)))) ∧ n ≤ nn ∧ (nn = 10 ∨ nn = 15) := by
    rcases hFe with ⟨h9, -⟩ | h9
    · omega
    · exact h9
  refine z_callV (As := [.int (nI k)]) (st := []) (mc := 0) (ms := 0) C hL1 hF1 rfl (c_Jx4a65c_get_915e3 l hlst G L F a1 mo ea n hL1 hF1 nn k (ad k) fe hLe hGe (by omega) (by omega) (hfe k (by omega)) (by omega) (by omega)) (cwV 1 C.1.2.2.2.2 gX2_feederOf_Jx4a65c_get_915e3 rfl rfl rfl (by decide +kernel) ⟨Nat.le_of_ble_eq_true rfl, Nat.le_of_ble_eq_true rfl⟩) rfl (Nat.le_of_ble_eq_true rfl) ⟨Nat.le_of_ble_eq_true rfl, Nat.le_of_ble_eq_true rfl⟩ dX2_feederOf_30 (z_p ?_)
  refine z_stk (st' := [.ref ((ad k))]) rfl ?_
  have hLa := (hFd k hlt).1
  have hFa : F (ad k) = fdE (fd k) := (hFd k hlt).2.1
  have hOk : fOk now (fd k) := (hFd k hlt).2.2.1
  obtain ⟨u1, u2, u3, u4, u5, u6, u7, u8⟩ := id hOk
  refine z_castX0 C hLa hFa (by decide +kernel) dX2_feederOf_33 ?_
  refine z_aret0 C rfl (by first | exact Or.inl ⟨_, rfl⟩ | exact Or.inr ⟨_, rfl⟩) (by decide) (by decide) dX2_feederOf_36 ?_
  exact ⟨rfl, rfl, rfl⟩

set_option maxRecDepth 100000 in
theorem hin_mX2_isCut_X0 : ∀ w ∈ u_ws RX0 TX0 7, w ∈ wsX2_isCut := by decide +kernel
set_option maxHeartbeats 4000000 in
set_option maxRecDepth 100000 in
theorem m_X2_isCut (l : Launch) (hlst : l.stackTraces = false) (G : zGt) (L : List Nat) (F : Nat → va_E) (M : Nat → Prop) (a0 a1 a2 b4 b5 b6 b7 : Nat) (ad : Nat → Nat) (n now sl : Nat) (fd : Nat → FdT) (hco : zCo G M L F a0 a1 a2 b4 b5 b6 b7 ad n now sl fd) (k : Nat) (hlt : k < n) : zM l yX2_isCut wsX2_isCut 11 175 0 0 G L F [.ref a0, .int (nI k)] (fun rv L1 F1 => rv = some (.int (nI (fOf (fd k)))) ∧ L1 = L ∧ F1 = F) := by
  obtain ⟨⟨hL0, hL1, hL2, hL4, hL5, hL6, hL7⟩, hF0, ⟨mo, ea, nn, fe, hF1, hFe, hfe, hMe⟩, hSr, hNb, hFd, hIj, ⟨hn, hnow, hsl⟩, hM0, hM1, hM2, hM4, hM5, hM6, hM7⟩ := id hco
  refine z_of (cc := cX2_isCut) (nL := 2) (ret := (some .boolean)) (own := RX2) hlst (by decide +kernel) rfl rfl (Nat.le_of_ble_eq_true rfl) ?_
  intro p e s m below meth c A hnm C
  refine z_lvs (lv' := [(0, .ref a0), (1, .int (nI k))]) rfl ?_
  refine z_aload_n C dX2_isCut_0 rfl 0 rfl ?_
  refine z_iload_n C dX2_isCut_1 rfl 1 rfl ?_
  refine z_callV (As := [.int (nI k)]) (st := []) (mc := 0) (ms := 0) C hL0 hF0 rfl (m_X2_feederOf l hlst G L F M a0 a1 a2 b4 b5 b6 b7 ad n now sl fd hco k hlt) (cwV 1 C.1.2.2.2.2 gX2_isCut_X2_feederOf rfl rfl rfl (by decide +kernel) ⟨Nat.le_of_ble_eq_true rfl, Nat.le_of_ble_eq_true rfl⟩) rfl (Nat.le_of_ble_eq_true rfl) ⟨Nat.le_of_ble_eq_true rfl, Nat.le_of_ble_eq_true rfl⟩ dX2_isCut_2 (z_p ?_)
  refine z_stk (st' := [.ref ((ad k))]) rfl ?_
  have hLa := (hFd k hlt).1
  have hFa : F (ad k) = fdE (fd k) := (hFd k hlt).2.1
  have hOk : fOk now (fd k) := (hFd k hlt).2.2.1
  obtain ⟨u1, u2, u3, u4, u5, u6, u7, u8⟩ := id hOk
  refine z_getN (host := RX2) (ref := "Shedwheel$Feeder") (v := .int (nI (fOf (fd k)))) C hin_mX2_isCut_X0 hLa hFa rfl 3 (by decide) (by decide +kernel) (fun _ h9 => h9) rfl dX2_isCut_5 ?_
  refine z_iret0 C rfl (zb_n (b := fOf (fd k)) (by omega)) (by decide) (by decide) dX2_isCut_8 ?_
  exact ⟨rfl, rfl, rfl⟩

set_option maxHeartbeats 4000000 in
set_option maxRecDepth 100000 in
theorem m_X2_takes (l : Launch) (hlst : l.stackTraces = false) (G : zGt) (L : List Nat) (F : Nat → va_E) (M : Nat → Prop) (a0 a1 a2 b4 b5 b6 b7 : Nat) (ad : Nat → Nat) (n now sl : Nat) (fd : Nat → FdT) (hco : zCo G M L F a0 a1 a2 b4 b5 b6 b7 ad n now sl fd) (k : Nat) (hlt : k < n) : zM l yX2_takes wsX2_takes 11 175 0 0 G L F [.ref a0, .int (nI k)] (fun rv L1 F1 => rv = some (.int (nI (fTk (fd k)))) ∧ L1 = L ∧ F1 = F) := by
  obtain ⟨⟨hL0, hL1, hL2, hL4, hL5, hL6, hL7⟩, hF0, ⟨mo, ea, nn, fe, hF1, hFe, hfe, hMe⟩, hSr, hNb, hFd, hIj, ⟨hn, hnow, hsl⟩, hM0, hM1, hM2, hM4, hM5, hM6, hM7⟩ := id hco
  refine z_of (cc := cX2_takes) (nL := 2) (ret := (some .int)) (own := RX2) hlst (by decide +kernel) rfl rfl (Nat.le_of_ble_eq_true rfl) ?_
  intro p e s m below meth c A hnm C
  refine z_lvs (lv' := [(0, .ref a0), (1, .int (nI k))]) rfl ?_
  refine z_aload_n C dX2_takes_0 rfl 0 rfl ?_
  refine z_iload_n C dX2_takes_1 rfl 1 rfl ?_
  refine z_callV (As := [.int (nI k)]) (st := []) (mc := 0) (ms := 0) C hL0 hF0 rfl (m_X2_feederOf l hlst G L F M a0 a1 a2 b4 b5 b6 b7 ad n now sl fd hco k hlt) (cwV 1 C.1.2.2.2.2 gX2_takes_X2_feederOf rfl rfl rfl (by decide +kernel) ⟨Nat.le_of_ble_eq_true rfl, Nat.le_of_ble_eq_true rfl⟩) rfl (Nat.le_of_ble_eq_true rfl) ⟨Nat.le_of_ble_eq_true rfl, Nat.le_of_ble_eq_true rfl⟩ dX2_takes_2 (z_p ?_)
  refine z_stk (st' := [.ref ((ad k))]) rfl ?_
  have hLa := (hFd k hlt).1
  have hFa : F (ad k) = fdE (fd k) := (hFd k hlt).2.1
  have hOk : fOk now (fd k) := (hFd k hlt).2.2.1
  obtain ⟨u1, u2, u3, u4, u5, u6, u7, u8⟩ := id hOk
  refine z_callVN (As := []) (st := []) (mc := 0) (ms := 0) C hLa hFa rfl (c_X0_taken l hlst G L F (ad k) (fSg (fd k)) (fMw (fd k)) (fCr (fd k)) (fOf (fd k)) (fHo (fd k)) (fTh (fd k)) (fCo (fd k)) hLa hFa (by omega) (by omega) (by omega)) ⟨va_cnB 0 C.1.2.2.2.2 gX2_takes_X0_taken_n112 rfl rfl rfl (z_nl (host := RX2) C (by decide +kernel)) (C.1.2.2.2.2 _ (show Cond.initialized RX0 ∈ _ from (by decide +kernel))) (by decide +kernel) ⟨Nat.le_of_ble_eq_true rfl, Nat.le_of_ble_eq_true rfl⟩, C.1.2.2.2.2 _ (show Cond.instanceMethod yX0_taken ∈ _ from (by decide +kernel)), C.1.2.2.2.2 _ (show Cond.selects RX0 yX0_taken yX0_taken ∈ _ from (by decide +kernel))⟩ rfl (Nat.le_of_ble_eq_true rfl) ⟨Nat.le_of_ble_eq_true rfl, Nat.le_of_ble_eq_true rfl⟩ dX2_takes_5 (z_p ?_)
  refine z_stk (st' := [.int (nI (tkV (fMw (fd k)) (fOf (fd k)) (fCo (fd k))))]) rfl ?_
  refine z_iret0 C rfl rfl (by decide) (by decide) dX2_takes_8 ?_
  exact ⟨rfl, rfl, rfl⟩

set_option maxRecDepth 100000 in
theorem hin_mX2_cold_X0 : ∀ w ∈ u_ws RX0 TX0 7, w ∈ wsX2_cold := by decide +kernel
set_option maxHeartbeats 4000000 in
set_option maxRecDepth 100000 in
theorem m_X2_cold (l : Launch) (hlst : l.stackTraces = false) (G : zGt) (L : List Nat) (F : Nat → va_E) (M : Nat → Prop) (a0 a1 a2 b4 b5 b6 b7 : Nat) (ad : Nat → Nat) (n now sl : Nat) (fd : Nat → FdT) (hco : zCo G M L F a0 a1 a2 b4 b5 b6 b7 ad n now sl fd) (k : Nat) (hlt : k < n) : zM l yX2_cold wsX2_cold 11 175 0 0 G L F [.ref a0, .int (nI k)] (fun rv L1 F1 => rv = some (.int (nI (fCo (fd k)))) ∧ L1 = L ∧ F1 = F) := by
  obtain ⟨⟨hL0, hL1, hL2, hL4, hL5, hL6, hL7⟩, hF0, ⟨mo, ea, nn, fe, hF1, hFe, hfe, hMe⟩, hSr, hNb, hFd, hIj, ⟨hn, hnow, hsl⟩, hM0, hM1, hM2, hM4, hM5, hM6, hM7⟩ := id hco
  refine z_of (cc := cX2_cold) (nL := 2) (ret := (some .int)) (own := RX2) hlst (by decide +kernel) rfl rfl (Nat.le_of_ble_eq_true rfl) ?_
  intro p e s m below meth c A hnm C
  refine z_lvs (lv' := [(0, .ref a0), (1, .int (nI k))]) rfl ?_
  refine z_aload_n C dX2_cold_0 rfl 0 rfl ?_
  refine z_iload_n C dX2_cold_1 rfl 1 rfl ?_
  refine z_callV (As := [.int (nI k)]) (st := []) (mc := 0) (ms := 0) C hL0 hF0 rfl (m_X2_feederOf l hlst G L F M a0 a1 a2 b4 b5 b6 b7 ad n now sl fd hco k hlt) (cwV 1 C.1.2.2.2.2 gX2_cold_X2_feederOf rfl rfl rfl (by decide +kernel) ⟨Nat.le_of_ble_eq_true rfl, Nat.le_of_ble_eq_true rfl⟩) rfl (Nat.le_of_ble_eq_true rfl) ⟨Nat.le_of_ble_eq_true rfl, Nat.le_of_ble_eq_true rfl⟩ dX2_cold_2 (z_p ?_)
  refine z_stk (st' := [.ref ((ad k))]) rfl ?_
  have hLa := (hFd k hlt).1
  have hFa : F (ad k) = fdE (fd k) := (hFd k hlt).2.1
  have hOk : fOk now (fd k) := (hFd k hlt).2.2.1
  obtain ⟨u1, u2, u3, u4, u5, u6, u7, u8⟩ := id hOk
  refine z_getN (host := RX2) (ref := "Shedwheel$Feeder") (v := .int (nI (fCo (fd k)))) C hin_mX2_cold_X0 hLa hFa rfl 6 (by decide) (by decide +kernel) (fun _ h9 => h9) rfl dX2_cold_5 ?_
  refine z_iret0 C rfl rfl (by decide) (by decide) dX2_cold_8 ?_
  exact ⟨rfl, rfl, rfl⟩

set_option maxRecDepth 100000 in
theorem hin_mX2_hours_X0 : ∀ w ∈ u_ws RX0 TX0 7, w ∈ wsX2_hours := by decide +kernel
set_option maxHeartbeats 4000000 in
set_option maxRecDepth 100000 in
theorem m_X2_hours (l : Launch) (hlst : l.stackTraces = false) (G : zGt) (L : List Nat) (F : Nat → va_E) (M : Nat → Prop) (a0 a1 a2 b4 b5 b6 b7 : Nat) (ad : Nat → Nat) (n now sl : Nat) (fd : Nat → FdT) (hco : zCo G M L F a0 a1 a2 b4 b5 b6 b7 ad n now sl fd) (k : Nat) (hlt : k < n) : zM l yX2_hours wsX2_hours 11 175 0 0 G L F [.ref a0, .int (nI k)] (fun rv L1 F1 => rv = some (.int (nI (fHo (fd k)))) ∧ L1 = L ∧ F1 = F) := by
  obtain ⟨⟨hL0, hL1, hL2, hL4, hL5, hL6, hL7⟩, hF0, ⟨mo, ea, nn, fe, hF1, hFe, hfe, hMe⟩, hSr, hNb, hFd, hIj, ⟨hn, hnow, hsl⟩, hM0, hM1, hM2, hM4, hM5, hM6, hM7⟩ := id hco
  refine z_of (cc := cX2_hours) (nL := 2) (ret := (some .int)) (own := RX2) hlst (by decide +kernel) rfl rfl (Nat.le_of_ble_eq_true rfl) ?_
  intro p e s m below meth c A hnm C
  refine z_lvs (lv' := [(0, .ref a0), (1, .int (nI k))]) rfl ?_
  refine z_aload_n C dX2_hours_0 rfl 0 rfl ?_
  refine z_iload_n C dX2_hours_1 rfl 1 rfl ?_
  refine z_callV (As := [.int (nI k)]) (st := []) (mc := 0) (ms := 0) C hL0 hF0 rfl (m_X2_feederOf l hlst G L F M a0 a1 a2 b4 b5 b6 b7 ad n now sl fd hco k hlt) (cwV 1 C.1.2.2.2.2 gX2_hours_X2_feederOf rfl rfl rfl (by decide +kernel) ⟨Nat.le_of_ble_eq_true rfl, Nat.le_of_ble_eq_true rfl⟩) rfl (Nat.le_of_ble_eq_true rfl) ⟨Nat.le_of_ble_eq_true rfl, Nat.le_of_ble_eq_true rfl⟩ dX2_hours_2 (z_p ?_)
  refine z_stk (st' := [.ref ((ad k))]) rfl ?_
  have hLa := (hFd k hlt).1
  have hFa : F (ad k) = fdE (fd k) := (hFd k hlt).2.1
  have hOk : fOk now (fd k) := (hFd k hlt).2.2.1
  obtain ⟨u1, u2, u3, u4, u5, u6, u7, u8⟩ := id hOk
  refine z_getN (host := RX2) (ref := "Shedwheel$Feeder") (v := .int (nI (fHo (fd k)))) C hin_mX2_hours_X0 hLa hFa rfl 4 (by decide) (by decide +kernel) (fun _ h9 => h9) rfl dX2_hours_5 ?_
  refine z_iret0 C rfl rfl (by decide) (by decide) dX2_hours_8 ?_
  exact ⟨rfl, rfl, rfl⟩
end
section
-- bits out of marks
def bsV (f : Nat → Nat) : Nat → Nat
  | 0 => 0
  | k + 1 => bsV f k + if f k = 1 then 2 ^ k else 0
theorem bsV_lt (f : Nat → Nat) : ∀ k, bsV f k < 2 ^ k
  | 0 => by show (0 : Nat) < 1; omega
  | k + 1 => by
    have := bsV_lt f k
    rw [bsV, Nat.pow_succ]
    split <;> omega
theorem bsV_bit {f : Nat → Nat} : ∀ {n k : Nat}, k < n → (bitV (bsV f n) k = 1 ↔ f k = 1)
  | n + 1, k, hk => by
    have hl := bsV_lt f n
    rw [bsV]
    by_cases c : f n = 1
    · rw [if_pos c]
      rcases Nat.lt_or_ge k n with q | q
      · rw [(bitV_add hl).2 k q]; exact bsV_bit q
      · obtain rfl : k = n := by omega
        exact ⟨fun _ => c, fun _ => (bitV_add hl).1⟩
    · rw [if_neg c, Nat.add_zero]
      rcases Nat.lt_or_ge k n with q | q
      · exact bsV_bit q
      · obtain rfl : k = n := by omega
        rw [bitV_hi hl]
        exact ⟨fun h9 => absurd h9 (by decide), fun h9 => absurd h9 c⟩
theorem bsV_cong {f g : Nat → Nat} : ∀ {n : Nat}, (∀ j, j < n → f j = g j) → bsV f n = bsV g n
  | 0, _ => rfl
  | n + 1, h => by rw [bsV, bsV, bsV_cong (n := n) (fun j hj => h j (by omega)), h n (by omega)]
theorem bsV_z {f : Nat → Nat} : ∀ {n : Nat}, (∀ j, j < n → ¬ f j = 1) → bsV f n = 0
  | 0, _ => rfl
  | n + 1, h => by rw [bsV, bsV_z (n := n) (fun j hj => h j (by omega)), if_neg (h n (by omega))]
abbrev oW (fd : Nat → FdT) (n : Nat) : Nat := bsV (fun j => fOf (fd j)) n
abbrev cW (fd : Nat → FdT) (n : Nat) : Nat := bsV (fun j => fCr (fd j)) n
theorem oW_bit {fd : Nat → FdT} {n j : Nat} (hj : j < n) : bitV (oW fd n) j = 1 ↔ fOf (fd j) = 1 := bsV_bit hj
theorem cW_bit {fd : Nat → FdT} {n j : Nat} (hj : j < n) : bitV (cW fd n) j = 1 ↔ fCr (fd j) = 1 := bsV_bit hj
theorem p2_le {n : Nat} (hn : n ≤ 12) : 2 ^ n ≤ 4096 := Nat.le_trans (Nat.pow_le_pow_right (by decide) hn) (by decide)
theorem oW_lt {fd : Nat → FdT} {n : Nat} (hn : n ≤ 12) : oW fd n < 4096 := Nat.lt_of_lt_of_le (bsV_lt _ n) (p2_le hn)
theorem cW_lt {fd : Nat → FdT} {n : Nat} (hn : n ≤ 12) : cW fd n < 4096 := Nat.lt_of_lt_of_le (bsV_lt _ n) (p2_le hn)
theorem or_hit {f : Nat → Nat} {k : Nat} (h : f k = 1) : nI (bsV f k) ||| nI (2 ^ k) = nI (bsV f (k + 1)) := by
  rw [nI_or, or_low (bsV_lt f k), bsV, if_pos h]
theorem or_miss {f : Nat → Nat} {k : Nat} (h : ¬ f k = 1) : nI (bsV f k) ||| nI 0 = nI (bsV f (k + 1)) := by
  rw [nI_or, Nat.or_zero, bsV, if_neg h, Nat.add_zero]
theorem bit_tb (s k : Nat) : bitV s k = 1 ↔ s.testBit k = true := by
  unfold bitV
  rw [Nat.testBit_eq_decide_div_mod_eq, decide_eq_true_iff]
theorem tb_ext {a b n : Nat} (ha : a < 2 ^ n) (hb : b < 2 ^ n) (h : ∀ j, j < n → (bitV a j = 1 ↔ bitV b j = 1)) : a = b := Nat.eq_of_testBit_eq (fun i => by
  rcases Nat.lt_or_ge i n with c | c
  · have h9 := h i c
    rw [bit_tb, bit_tb] at h9
    exact Bool.eq_iff_iff.mpr h9
  · have hp : 2 ^ n ≤ 2 ^ i := Nat.pow_le_pow_right (by decide) c
    rw [Nat.testBit_lt_two_pow (Nat.lt_of_lt_of_le ha hp), Nat.testBit_lt_two_pow (Nat.lt_of_lt_of_le hb hp)])
theorem bit_lt {a n j : Nat} (h : a < 2 ^ n) (hb : bitV a j = 1) : j < n := by
  rcases Nat.lt_or_ge j n with c | c
  · exact c
  · have hp : 2 ^ n ≤ 2 ^ j := Nat.pow_le_pow_right (by decide) c
    rw [bitV_hi (Nat.lt_of_lt_of_le h hp)] at hb
    exact absurd hb (by decide)
def mnV (a c : Nat) : Nat := a ^^^ (a &&& c)
theorem mn_tb {a c k : Nat} : bitV (mnV a c) k = 1 ↔ bitV a k = 1 ∧ ¬ bitV c k = 1 := by
  rw [bit_tb, bit_tb, bit_tb, mnV, Nat.testBit_xor, Nat.testBit_and]
  cases a.testBit k <;> cases c.testBit k <;> decide
theorem or_tb {a c k : Nat} : bitV (a ||| c) k = 1 ↔ bitV a k = 1 ∨ bitV c k = 1 := by
  rw [bit_tb, bit_tb, bit_tb, Nat.testBit_or]
  cases a.testBit k <;> cases c.testBit k <;> decide
theorem an_tb {a c k : Nat} : bitV (a &&& c) k = 1 ↔ bitV a k = 1 ∧ bitV c k = 1 := by
  rw [bit_tb, bit_tb, bit_tb, Nat.testBit_and]
  cases a.testBit k <;> cases c.testBit k <;> decide
theorem mn_lt {a c n : Nat} (h : a < 2 ^ n) : mnV a c < 2 ^ n := Nat.xor_lt_two_pow h (Nat.lt_of_le_of_lt Nat.and_le_left h)
theorem mn_0 (c : Nat) : mnV 0 c = 0 := by
  unfold mnV
  rw [Nat.zero_and]; rfl
theorem nx_and (a b : Nat) : nI a &&& nI b = nI (a &&& b) := by
  apply Int32.toBitVec_inj.1
  show BitVec.ofNat 32 a &&& BitVec.ofNat 32 b = BitVec.ofNat 32 (a &&& b)
  apply BitVec.eq_of_getLsbD_eq
  intro i hi
  simp [hi]
theorem nx_xor (a b : Nat) : nI a ^^^ nI b = nI (a ^^^ b) := by
  apply Int32.toBitVec_inj.1
  show BitVec.ofNat 32 a ^^^ BitVec.ofNat 32 b = BitVec.ofNat 32 (a ^^^ b)
  apply BitVec.eq_of_getLsbD_eq
  intro i hi
  simp [hi]
theorem nx_m1 : ∀ i, i < 32 → (-1 : Int32).toBitVec.getLsbD i = true := by decide +kernel
theorem mn_x (x y : Int32) : x &&& (y ^^^ (-1)) = x ^^^ (x &&& y) := by
  apply Int32.toBitVec_inj.1
  rw [Int32.toBitVec_and, Int32.toBitVec_xor, Int32.toBitVec_xor, Int32.toBitVec_and]
  apply BitVec.eq_of_getLsbD_eq
  intro i hi
  rw [BitVec.getLsbD_and, BitVec.getLsbD_xor, BitVec.getLsbD_xor, BitVec.getLsbD_and, nx_m1 i hi]
  cases x.toBitVec.getLsbD i <;> cases y.toBitVec.getLsbD i <;> rfl
theorem mnx_nI (a c : Nat) : nI a &&& (nI c ^^^ (-1)) = nI (mnV a c) := by
  rw [mn_x, nx_and, nx_xor]; rfl
theorem and_off {a c : Nat} (h : ∀ j, bitV a j = 1 → ¬ bitV c j = 1) : a &&& c = 0 := Nat.eq_of_testBit_eq (fun i => by
  have h9 := h i
  rw [bit_tb, bit_tb] at h9
  rw [Nat.testBit_and, Nat.zero_testBit]
  revert h9
  cases a.testBit i <;> cases c.testBit i <;> decide)
theorem and_in {a c : Nat} (h : ∀ j, bitV a j = 1 → bitV c j = 1) : a &&& c = a := Nat.eq_of_testBit_eq (fun i => by
  have h9 := h i
  rw [bit_tb, bit_tb] at h9
  rw [Nat.testBit_and]
  revert h9
  cases a.testBit i <;> cases c.testBit i <;> decide)
theorem and_0 {a c j : Nat} (h : a &&& c = 0) (h1 : bitV a j = 1) : ¬ bitV c j = 1 := by
  intro h2
  have h3 := an_tb.mpr ⟨h1, h2⟩
  rw [h] at h3
  unfold bitV at h3
  rw [Nat.zero_div] at h3
  exact absurd h3 (by decide)
theorem p2_bit {n j : Nat} (h : j < n) : bitV (2 ^ n - 1) j = 1 := by
  rw [bit_tb, Nat.testBit_two_pow_sub_one]
  exact decide_eq_true h
theorem p2_sub {n : Nat} : nI (2 ^ n) - nI 1 = nI (2 ^ n - 1) := pk_sub (a := 2 ^ n) (b := 1) Nat.one_le_two_pow
theorem p2_lt {n : Nat} : 2 ^ n - 1 < 2 ^ n := by
  have := Nat.two_pow_pos n
  omega
-- sums
theorem sT_1 {fd : Nat → FdT} {s k : Nat} (h : bitV s k = 1) : sT fd s (k + 1) = sT fd s k + fTk (fd k) := by rw [sT, if_pos h]
theorem sT_n {fd : Nat → FdT} {s k : Nat} (h : ¬ bitV s k = 1) : sT fd s (k + 1) = sT fd s k + 0 := by rw [sT, if_neg h]
theorem smV_mono {f : Nat → Nat} {k : Nat} : ∀ {n : Nat}, k ≤ n → smV f k ≤ smV f n
  | 0, h => by
    obtain rfl : k = 0 := by omega
    exact Nat.le_refl _
  | n + 1, h => by
    rcases Nat.lt_or_ge k (n + 1) with c | c
    · rw [smV_s]
      exact Nat.le_trans (smV_mono (n := n) (by omega)) (Nat.le_add_right _ _)
    · obtain rfl : k = n + 1 := by omega
      exact Nat.le_refl _
theorem smV_z {f : Nat → Nat} {n : Nat} (h : smV f n = 0) {j : Nat} (hj : j < n) : f j = 0 := by
  have h1 := smV_mono (f := f) (show j + 1 ≤ n by omega)
  rw [smV_s] at h1
  omega
theorem smV_le2 {f g : Nat → Nat} : ∀ {n : Nat}, (∀ j, j < n → f j ≤ g j) → smV f n ≤ smV g n
  | 0, _ => Nat.le_refl _
  | n + 1, h => by
    rw [smV_s, smV_s]
    exact Nat.add_le_add (smV_le2 (n := n) (fun j hj => h j (by omega))) (h n (by omega))
theorem smV_12 {f : Nat → Nat} {n B : Nat} (hn : n ≤ 12) (h : ∀ j, j < n → f j ≤ B) : smV f n ≤ 12 * B := Nat.le_trans (smV_le h) (Nat.mul_le_mul_right _ hn)
theorem sub_step {f : Nat → Nat} {k n A : Nat} (hk : k < n) (hA : smV f n = A) : nI (A - smV f k) - nI (f k) = nI (A - smV f (k + 1)) := by
  have h1 := smV_mono (f := f) (show k + 1 ≤ n by omega)
  rw [smV_s] at h1
  rw [pk_sub (by omega), smV_s]
  congr 1
  omega
-- what relief leaves
def fZ (n : Nat) (fd : Nat → FdT) : Prop := ∀ j, j < n → fOf (fd j) = 1 → fCo (fd j) = 0
def fN (n : Nat) (fd g : Nat → FdT) : Prop := (∀ j, j < n → fCr (g j) = fCr (fd j)) ∧ fZ n g
theorem fdK_lt {g : Nat → FdT → FdT} {fd : Nat → FdT} {n j : Nat} (h : j < n) : fdK g fd n j = g j (fd j) := by
  unfold fdK; rw [if_pos h]
theorem isB_lt {n : Nat} {fd : Nat → FdT} {sl sf b : Nat} (hn : n ≤ 12) (h : isB n fd sl sf b) : b < 2 ^ n ∧ b < 4096 := by
  have hp := p2_le hn
  rcases h with ⟨rfl, -⟩ | ⟨h1, -⟩
  · exact ⟨Nat.two_pow_pos n, by decide⟩
  · exact ⟨h1.1, Nat.lt_of_lt_of_le h1.1 hp⟩
theorem isB_sT {n : Nat} {fd : Nat → FdT} {sl sf b : Nat} (h : isB n fd sl sf b) (h0 : ¬ b = 0) : sf ≤ sT fd b n := by
  rcases h with ⟨h1, -⟩ | ⟨h1, -⟩
  · exact absurd h1 h0
  · exact h1.2.2
theorem isB_z {n : Nat} {fd : Nat → FdT} {sl sf : Nat} (h1 : 1 ≤ sf) (hb : isB n fd sl sf 0) (hok : ∀ j, j < n → fOf (fd j) ≤ 1 ∧ fCr (fd j) ≤ 1) : sT fd (mnV (mnV (2 ^ n - 1) (cW fd n)) (oW fd n)) n < sf := by
  have hno : ∀ s, ¬ cand n fd sf s := by
    rcases hb with ⟨-, h2⟩ | ⟨h2, -⟩
    · exact h2
    · have h3 := h2.2.2
      rw [sT_0] at h3
      omega
  apply Nat.lt_of_not_le
  intro h9
  refine hno _ ⟨mn_lt (mn_lt p2_lt), fun j hj hbj => ?_, h9⟩
  obtain ⟨q0, q2⟩ := mn_tb.mp hbj
  obtain ⟨-, q1⟩ := mn_tb.mp q0
  have q3 : ¬ fCr (fd j) = 1 := fun e => q1 ((cW_bit hj).mpr e)
  have q4 : ¬ fOf (fd j) = 1 := fun e => q2 ((oW_bit hj).mpr e)
  have := hok j hj
  exact ⟨by omega, by omega⟩
theorem isB_off {n : Nat} {fd : Nat → FdT} {sl sf b : Nat} (hb : isB n fd sl sf b) : nI b &&& nI (oW fd n) = nI 0 := by
  rw [nx_and, and_off (fun j h1 h2 => ?_)]
  have hj := bit_lt (bsV_lt _ n) h2
  have h3 := isB_free hb hj h1
  have h4 := (oW_bit hj).mp h2
  omega
theorem isB_crit {n : Nat} {fd : Nat → FdT} {sl sf b : Nat} (hb : isB n fd sl sf b) : nI b &&& nI (cW fd n) = nI 0 := by
  rw [nx_and, and_off (fun j h1 h2 => ?_)]
  have hj := bit_lt (bsV_lt _ n) h2
  have h3 := isB_free hb hj h1
  have h4 := (cW_bit hj).mp h2
  omega
theorem reT_sT {fd : Nat → FdT} {b : Nat} : ∀ n, smV (fun i => reT b i (fd i)) n = sT fd b n
  | 0 => rfl
  | n + 1 => by rw [smV_s, sT, reT_sT n]; rfl
theorem fTk_off (r : FdT) : fTk (fOff r) = 0 := rfl
theorem rel_out {n : Nat} {fd : Nat → FdT} {b : Nat} (hb : b < 2 ^ n) : nI (oW fd n) ||| nI b = nI (oW (fdK (fun i r => reG b i r) fd n) n) := by
  rw [nI_or]
  congr 1
  refine tb_ext (Nat.or_lt_two_pow (bsV_lt _ n) hb) (bsV_lt _ n) (fun j hj => ?_)
  have e : fOf (fdK (fun i r => reG b i r) fd n j) = if bitV b j = 1 then 1 else fOf (fd j) := by
    rw [fdK_lt hj]
    show fOf (reG b j (fd j)) = _
    unfold reG
    by_cases c : bitV b j = 1
    · rw [if_pos c, if_pos c]; rfl
    · rw [if_neg c, if_neg c]
  rw [or_tb, oW_bit hj, oW_bit hj, e]
  by_cases c : bitV b j = 1
  · rw [if_pos c]; exact ⟨fun _ => rfl, fun _ => Or.inr c⟩
  · rw [if_neg c]; exact ⟨fun h => h.resolve_right c, fun h => Or.inl h⟩
theorem rel_load {fd g : Nat → FdT} {b : Nat} : ∀ {k : Nat}, (∀ j, j < k → g j = reG b j (fd j)) → smV (fun j => fTk (g j)) k + sT fd b k = smV (fun j => fTk (fd j)) k
  | 0, _ => rfl
  | k + 1, h => by
    have ih := rel_load (k := k) (fun j hj => h j (by omega))
    have e := h k (by omega)
    rw [smV_s, smV_s, sT]
    show smV (fun j => fTk (g j)) k + fTk (g k) + (sT fd b k + if bitV b k = 1 then fTk (fd k) else 0) = smV (fun j => fTk (fd j)) k + fTk (fd k)
    rw [e]
    unfold reG
    by_cases c : bitV b k = 1
    · rw [if_pos c, if_pos c, fTk_off]; omega
    · rw [if_neg c, if_neg c]; omega
theorem rel_sub {n : Nat} {fd : Nat → FdT} {b : Nat} : nI (smV (fun j => fTk (fd j)) n) - nI (sT fd b n) = nI (smV (fun j => fTk (fdK (fun i r => reG b i r) fd n j)) n) := by
  have h := rel_load (fd := fd) (g := fdK (fun i r => reG b i r) fd n) (b := b) (k := n) (fun j hj => fdK_lt hj)
  rw [pk_sub (by omega)]
  congr 1
  omega
theorem rel_fN {n : Nat} {fd : Nat → FdT} {b : Nat} (hz : fZ n fd) : fN n fd (fdK (fun i r => reG b i r) fd n) := by
  refine ⟨fun j hj => ?_, fun j hj => ?_⟩
  · rw [fdK_lt hj]
    show fCr (reG b j (fd j)) = _
    unfold reG
    split <;> rfl
  · rw [fdK_lt hj]
    show fOf (reG b j (fd j)) = 1 → fCo (reG b j (fd j)) = 0
    unfold reG
    split
    · exact fun _ => rfl
    · exact hz j hj
-- what turns leave
def cdV (r : FdT) : Nat := if fOf r = 1 then fRs r else 0
theorem fTk_le_rs (r : FdT) : fTk r ≤ fRs r := by
  unfold fTk fRs tkV rsV
  split
  · exact Nat.le_refl _
  · exact Nat.zero_le _
theorem fRs_cd {r : FdT} (h : fOf r ≤ 1) : fRs r = fTk r + cdV r := by
  unfold cdV
  by_cases c : fOf r = 0
  · rw [if_neg (by omega)]
    unfold fTk fRs tkV rsV
    rw [if_pos c, if_pos c]; rfl
  · rw [if_pos (by omega)]
    unfold fTk tkV
    rw [if_neg c, Nat.zero_add]
theorem cd_sum {fd : Nat → FdT} : ∀ {n : Nat}, (∀ j, j < n → fOf (fd j) ≤ 1) → smV (fun j => fRs (fd j)) n = smV (fun j => fTk (fd j)) n + smV (fun j => cdV (fd j)) n
  | 0, _ => rfl
  | n + 1, h => by
    have ih := cd_sum (n := n) (fun j hj => h j (by omega))
    have e := fRs_cd (h n (by omega))
    rw [smV_s, smV_s, smV_s, ih]
    show _ + fRs (fd n) = _ + fTk (fd n) + (_ + cdV (fd n))
    omega
theorem cd_nI {fd : Nat → FdT} {n : Nat} (h : ∀ j, j < n → fOf (fd j) ≤ 1) : nI (smV (fun j => fRs (fd j)) n) - nI (smV (fun j => fTk (fd j)) n) = nI (smV (fun j => cdV (fd j)) n) := by
  have e := cd_sum h
  rw [pk_sub (by omega)]
  congr 1
  omega
theorem cd_pos {n now cr : Nat} {fd : Nat → FdT} (hok : ∀ j, j < n → fOk now (fd j)) (h : ¬ mnV (oW fd n) cr = 0) : 1 ≤ smV (fun j => cdV (fd j)) n := by
  apply Nat.pos_of_ne_zero
  intro h0
  apply h
  have e : oW fd n = 0 := bsV_z (fun j hj h1 => by
    have h2 : cdV (fd j) = 0 := smV_z h0 hj
    have h3 : fOf (fd j) = 1 := h1
    unfold cdV at h2
    rw [if_pos h3] at h2
    have := fRs_pos (hok j hj)
    omega)
  rw [e, mn_0]
theorem no_crit {n : Nat} {fd : Nat → FdT} (h : oW fd n &&& cW fd n = 0) : ∀ j, j < n → fOf (fd j) = 1 → ¬ fCr (fd j) = 1 := fun j hj h1 h2 => and_0 h ((oW_bit hj).mpr h1) ((cW_bit hj).mpr h2)
theorem rt_cd {n now : Nat} {fd : Nat → FdT} (hok : ∀ j, j < n → fOk now (fd j)) (h : oW fd n &&& cW fd n = 0) : smV (fun j => rtV (fd j)) n = smV (fun j => cdV (fd j)) n := smV_cong (fun j hj => by
  show rtV (fd j) = cdV (fd j)
  obtain ⟨u1, u2, u3, u4, u5, u6, u7, u8⟩ := hok j hj
  unfold rtV cdV
  by_cases c : fOf (fd j) = 1
  · have := no_crit h j hj c
    rw [if_pos ⟨c, by omega⟩, if_pos c]
  · rw [if_neg (fun q => c q.1), if_neg c])
theorem sw_due {n now : Nat} {fd : Nat → FdT} (hok : ∀ j, j < n → fOk now (fd j)) : smV (fun j => swT (fd j)) n = smV (fun j => bitV (mnV (oW fd n) (cW fd n)) j) n := smV_cong (fun j hj => by
  show swT (fd j) = bitV (mnV (oW fd n) (cW fd n)) j
  obtain ⟨u1, u2, u3, u4, u5, u6, u7, u8⟩ := hok j hj
  have hb := bitV_le (mnV (oW fd n) (cW fd n)) j
  have hi : bitV (mnV (oW fd n) (cW fd n)) j = 1 ↔ fOf (fd j) = 1 ∧ ¬ fCr (fd j) = 1 := by rw [mn_tb, oW_bit hj, cW_bit hj]
  unfold swT
  by_cases c : fOf (fd j) = 1 ∧ fCr (fd j) = 0
  · rw [if_pos c]
    exact (hi.mpr ⟨c.1, by omega⟩).symm
  · rw [if_neg c]
    have : ¬ bitV (mnV (oW fd n) (cW fd n)) j = 1 := fun q => c ⟨(hi.mp q).1, by have := (hi.mp q).2; omega⟩
    omega)
theorem rot_out {n now sl sf b : Nat} {fd : Nat → FdT} (hn : n ≤ 12) (hok : ∀ j, j < n → fOk now (fd j)) (h : oW fd n &&& cW fd n = 0) (hb : isB n fd sl sf b) : oW (fdK (fun i r => swG b i r) fd n) n = b := by
  refine tb_ext (bsV_lt _ n) (isB_lt hn hb).1 (fun j hj => ?_)
  obtain ⟨u1, u2, u3, u4, u5, u6, u7, u8⟩ := hok j hj
  rw [oW_bit hj, fdK_lt hj]
  show fOf (swG b j (fd j)) = 1 ↔ _
  have hc := no_crit h j hj
  have hf := fun q => isB_free hb (k := j) hj q
  unfold swG
  by_cases c : fOf (fd j) = 1 ∧ fCr (fd j) = 0
  · rw [if_pos c]
    exact ⟨fun q => absurd (show (0 : Nat) = 1 from q) (by decide), fun q => by have := (hf q).1; omega⟩
  · rw [if_neg c]
    by_cases d : bitV b j = 1
    · rw [if_pos d]; exact ⟨fun _ => d, fun _ => rfl⟩
    · rw [if_neg d]
      exact ⟨fun q => absurd ⟨q, by have := hc q; omega⟩ c, fun q => absurd q d⟩
theorem rot_on {n sl sf b : Nat} {fd : Nat → FdT} (hn : n ≤ 12) (hb : isB n fd sl sf b) : nI b &&& nI (mnV (2 ^ n - 1) (oW fd n)) = nI b := by
  rw [nx_and, and_in (fun j h1 => ?_)]
  have hj := bit_lt (isB_lt hn hb).1 h1
  refine mn_tb.mpr ⟨p2_bit hj, fun h2 => ?_⟩
  have h3 := isB_free hb hj h1
  have h4 := (oW_bit hj).mp h2
  omega
theorem rot_ho {n b : Nat} {fd : Nat → FdT} : smV (fun j => fHo (fdK (fun i r => swG b i r) fd n j)) n = smV (fun j => fHo (fd j)) n := smV_cong (fun j hj => by
  show fHo (fdK (fun i r => swG b i r) fd n j) = fHo (fd j)
  rw [fdK_lt hj]
  show fHo (swG b j (fd j)) = _
  unfold swG
  split
  · rfl
  · split <;> rfl)
theorem fTk_on {r : FdT} (h : fOf r = 1) : fTk (fOn r) = fRs r := by
  have e : fTk (fOn r) = fMw r * (100 + crV (fTh r)) / 100 := rfl
  rw [e]
  unfold fRs rsV
  rw [if_neg (by omega)]
theorem fTk_cut {r : FdT} (h : fOf r = 1) : fTk r = 0 := by
  unfold fTk tkV
  rw [if_neg (by omega)]
theorem rot_load {fd g : Nat → FdT} {b : Nat} : ∀ {k : Nat}, (∀ j, j < k → fOf (fd j) ≤ 1 ∧ (fOf (fd j) = 1 → fCr (fd j) = 0) ∧ (bitV b j = 1 → fOf (fd j) = 0)) → (∀ j, j < k → g j = swG b j (fd j)) → smV (fun j => fTk (g j)) k + sT fd b k = smV (fun j => fTk (fd j)) k + smV (fun j => cdV (fd j)) k
  | 0, _, _ => rfl
  | k + 1, h, hg => by
    have ih := rot_load (k := k) (fun j hj => h j (by omega)) (fun j hj => hg j (by omega))
    have e := hg k (by omega)
    obtain ⟨h1, h2, h3⟩ := h k (by omega)
    rw [smV_s, smV_s, smV_s, sT]
    show smV (fun j => fTk (g j)) k + fTk (g k) + (sT fd b k + if bitV b k = 1 then fTk (fd k) else 0) = smV (fun j => fTk (fd j)) k + fTk (fd k) + (smV (fun j => cdV (fd j)) k + cdV (fd k))
    rw [e]
    by_cases c : fOf (fd k) = 1
    · rw [show swG b k (fd k) = fOn (fd k) from by rw [swG, if_pos ⟨c, h2 c⟩], show cdV (fd k) = fRs (fd k) from by rw [cdV, if_pos c], if_neg (fun q => by have := h3 q; omega), fTk_on c, fTk_cut c]
      omega
    · rw [show cdV (fd k) = 0 from by rw [cdV, if_neg c]]
      by_cases d : bitV b k = 1
      · rw [show swG b k (fd k) = fOff (fd k) from by rw [swG, if_neg (fun q => c q.1), if_pos d], if_pos d, fTk_off]; omega
      · rw [show swG b k (fd k) = fd k from by rw [swG, if_neg (fun q => c q.1), if_neg d], if_neg d]; omega
theorem rot_le {n now sl b : Nat} {fd : Nat → FdT} (hok : ∀ j, j < n → fOk now (fd j)) (h : oW fd n &&& cW fd n = 0) (hb : isB n fd sl (smV (fun j => cdV (fd j)) n) b) (h0 : ¬ b = 0) : smV (fun j => fTk (fdK (fun i r => swG b i r) fd n j)) n ≤ smV (fun j => fTk (fd j)) n := by
  have h1 := rot_load (fd := fd) (g := fdK (fun i r => swG b i r) fd n) (b := b) (k := n) (fun j hj => by
    obtain ⟨u1, u2, u3, u4, u5, u6, u7, u8⟩ := hok j hj
    exact ⟨u5, fun q => by have := no_crit h j hj q; omega, fun q => (isB_free hb hj q).1⟩) (fun j hj => fdK_lt hj)
  have h2 := isB_sT hb h0
  omega
theorem rot_fN {n : Nat} {fd : Nat → FdT} {b : Nat} (hz : fZ n fd) : fN n fd (fdK (fun i r => swG b i r) fd n) := by
  refine ⟨fun j hj => ?_, fun j hj => ?_⟩
  · rw [fdK_lt hj]
    show fCr (swG b j (fd j)) = _
    unfold swG
    split
    · rfl
    · split <;> rfl
  · rw [fdK_lt hj]
    show fOf (swG b j (fd j)) = 1 → fCo (swG b j (fd j)) = 0
    unfold swG
    split
    · exact fun q => absurd (show (0 : Nat) = 1 from q) (by decide)
    · split
      · exact fun _ => rfl
      · exact hz j hj
-- what hours leave
def hpV (h : Nat) (r : FdT) : Nat := fHo r + if fOf r = 1 then h else 0
theorem hp_1 {fd : Nat → FdT} {h k n : Nat} (hk : k < n) (c : bitV (oW fd n) k = 1) : smV (fun j => hpV h (fd j)) (k + 1) = smV (fun j => hpV h (fd j)) k + (fHo (fd k) + h) := by
  rw [smV_s]
  show _ + hpV h (fd k) = _
  unfold hpV
  rw [if_pos ((oW_bit hk).mp c)]
theorem hp_0 {fd : Nat → FdT} {h k n : Nat} (hk : k < n) (c : ¬ bitV (oW fd n) k = 1) : smV (fun j => hpV h (fd j)) (k + 1) = smV (fun j => hpV h (fd j)) k + (fHo (fd k) + 0) := by
  rw [smV_s]
  show _ + hpV h (fd k) = _
  unfold hpV
  rw [if_neg (fun q => c ((oW_bit hk).mpr q))]
theorem ps_ho {n h : Nat} {fd : Nat → FdT} (hof : ∀ j, j < n → fOf (fd j) ≤ 1) : smV (fun j => fHo (fdK (fun _ r => fPs h r) fd n j)) n = smV (fun j => hpV h (fd j)) n := smV_cong (fun j hj => by
  show fHo (fdK (fun _ r => fPs h r) fd n j) = hpV h (fd j)
  rw [fdK_lt hj]
  show (if fOf (fd j) = 0 then fHo (fd j) else fHo (fd j) + h) = _
  unfold hpV
  have := hof j hj
  by_cases c : fOf (fd j) = 0
  · rw [if_pos c, if_neg (by omega)]; rfl
  · rw [if_neg c, if_pos (by omega)])
theorem ps_out {n h : Nat} {fd : Nat → FdT} : oW (fdK (fun _ r => fPs h r) fd n) n = oW fd n := bsV_cong (fun j hj => by
  show fOf (fdK (fun _ r => fPs h r) fd n j) = fOf (fd j)
  rw [fdK_lt hj]; rfl)
theorem fTk_ps (h : Nat) (r : FdT) : fTk (fPs h r) ≤ fTk r := by
  show tkV (fMw r) (fOf r) (if fOf r = 0 then fCo r - 20 * h else fCo r) ≤ tkV (fMw r) (fOf r) (fCo r)
  unfold tkV
  by_cases c : fOf r = 0
  · rw [if_pos c, if_pos c, if_pos c]
    exact Nat.div_le_div_right (Nat.mul_le_mul_left _ (by omega))
  · rw [if_neg c, if_neg c]
    exact Nat.le_refl _
theorem ps_load {n h : Nat} {fd : Nat → FdT} : smV (fun j => fTk (fdK (fun _ r => fPs h r) fd n j)) n ≤ smV (fun j => fTk (fd j)) n := smV_le2 (fun j hj => by
  show fTk (fdK (fun _ r => fPs h r) fd n j) ≤ fTk (fd j)
  rw [fdK_lt hj]
  exact fTk_ps h (fd j))
theorem rs_load {n : Nat} {fd : Nat → FdT} : smV (fun j => fTk (fd j)) n ≤ smV (fun j => fRs (fd j)) n := smV_le2 (fun j _ => fTk_le_rs (fd j))
theorem ps_cold {n h now : Nat} {fd : Nat → FdT} (h5 : 5 ≤ h) (hok : ∀ j, j < n → fOk now (fd j)) (hz : fZ n fd) : ∀ j, j < n → fCo (fdK (fun _ r => fPs h r) fd n j) = 0 := by
  intro j hj
  obtain ⟨u1, u2, u3, u4, u5, u6, u7, u8⟩ := hok j hj
  have hz9 := hz j hj
  rw [fdK_lt hj]
  show (if fOf (fd j) = 0 then fCo (fd j) - 20 * h else fCo (fd j)) = 0
  by_cases c : fOf (fd j) = 0
  · rw [if_pos c]; omega
  · rw [if_neg c]; exact hz9 (by omega)
theorem ps_fN {n h : Nat} {fd : Nat → FdT} (hz : fZ n fd) : fN n fd (fdK (fun _ r => fPs h r) fd n) := by
  refine ⟨fun j hj => ?_, fun j hj => ?_⟩
  · rw [fdK_lt hj]; rfl
  · rw [fdK_lt hj]
    intro c
    have c1 : fOf (fd j) = 1 := c
    show (if fOf (fd j) = 0 then fCo (fd j) - 20 * h else fCo (fd j)) = 0
    rw [if_neg (by omega)]
    exact hz j hj c1
theorem fN.cW {n : Nat} {fd g : Nat → FdT} (h : fN n fd g) : cW g n = cW fd n := bsV_cong (fun j hj => h.1 j hj)
theorem fN.tr {n : Nat} {fd g k : Nat → FdT} (h : fN n fd g) (h2 : fN n g k) : fN n fd k := ⟨fun j hj => (h2.1 j hj).trans (h.1 j hj), h2.2⟩
theorem fN.rf {n : Nat} {fd : Nat → FdT} (h : fZ n fd) : fN n fd fd := ⟨fun _ _ => rfl, h⟩
end
section
-- the law's own rows
section ZL
variable {p : Program} {l : Launch} {e : Env} {R : Room} {s : State} {m : MethodId} {args : Array Value} {below : List Frame} {meth : Method} {c : Code} {cc : ByteArray} {nL : Nat} {Ts : List Cond} {own : String} {ret9 : Option FieldType} {G : zGt} {A : Nat → Prop} {Q : State → Prop} {ce sl : Nat} {L : List Nat} {F : Nat → va_E} {pc : Nat} {lv : List (Nat × Value)} {st : List Value}
theorem z_sld (C : zC p l s m args meth c cc nL Ts own ret9 G A) {b N i : Nat} {xs : Nat → Int32} (hX : va_X b N xs s s.heap) (hbl : b < s.heap.size) (hbA : ¬ A b) (hi : i < N) (hN : N < 2147483648) (d : decode cc pc = .ok (.iaload, 1)) (kk : zW p l e R s m args below meth c nL G A Q ce sl L F (pc + 1) lv (.int (xs i) :: st)) : zW p l e R s m args below meth c nL G A Q ce sl L F pc lv (.int (nI i) :: .ref b :: st) := fun H locs ls hP hD hS hl => by
  refine va_sld C.1.1 C.1.2.1 hX hbl hbA hS (vp_in_nI hi (by omega)) d ?_
  rw [nI_clamp (by omega)]
  exact kk H locs ls hP hD hS hl
theorem z_slen (C : zC p l s m args meth c cc nL Ts own ret9 G A) {b N : Nat} {xs : Nat → Int32} (hX : va_X b N xs s s.heap) (hbl : b < s.heap.size) (hbA : ¬ A b) (d : decode cc pc = .ok (.arraylength, 1)) (kk : zW p l e R s m args below meth c nL G A Q ce sl L F (pc + 1) lv (.int (nI N) :: st)) : zW p l e R s m args below meth c nL G A Q ce sl L F pc lv (.ref b :: st) := fun H locs ls hP hD hS hl => va_slen C.1.1 C.1.2.1 hX hbl hbA hS d (kk H locs ls hP hD hS hl)
theorem z_iushr (C : zC p l s m args meth c cc nL Ts own ret9 G A) {x y : Int32} (v : Int32) (d : decode cc pc = .ok (.iushr, 1)) (hv : (x.toUInt32 >>> (y.toUInt32 &&& Int32.toUInt32 31)).toInt32 = v) (kk : zW p l e R s m args below meth c nL G A Q ce sl L F (pc + 1) lv (.int v :: st)) : zW p l e R s m args below meth c nL G A Q ce sl L F pc lv (.int y :: .int x :: st) := fun H locs ls hP hD hS hl => lv_iushr C.1.1 C.1.2.1 d hv (kk H locs ls hP hD hS hl)
theorem z_irem (C : zC p l s m args meth c cc nL Ts own ret9 G A) {x y : Int32} (v : Int32) (d : decode cc pc = .ok (.irem, 1)) (h0 : ¬ y = 0) (hv : x - x / y * y = v) (kk : zW p l e R s m args below meth c nL G A Q ce sl L F (pc + 1) lv (.int v :: st)) : zW p l e R s m args below meth c nL G A Q ce sl L F pc lv (.int y :: .int x :: st) := fun H locs ls hP hD hS hl => lv_irem C.1.1 C.1.2.1 d h0 (by rw [hv]; exact kk H locs ls hP hD hS hl)
theorem z_ixor (C : zC p l s m args meth c cc nL Ts own ret9 G A) {x y : Int32} (v : Int32) (d : decode cc pc = .ok (.ixor, 1)) (hv : x ^^^ y = v) (kk : zW p l e R s m args below meth c nL G A Q ce sl L F (pc + 1) lv (.int v :: st)) : zW p l e R s m args below meth c nL G A Q ce sl L F pc lv (.int y :: .int x :: st) := fun H locs ls hP hD hS hl => lv_ixor C.1.1 C.1.2.1 d (by rw [hv]; exact kk H locs ls hP hD hS hl)
-- a method that reads the script
def zPreS (G : zGt) (L : List Nat) (F : Nat → va_E) (sz b N : Nat) (xs : Nat → Int32) (U : State) : Prop := zPre G L F sz U ∧ va_X b N xs U U.heap ∧ b < sz ∧ ¬ b ∈ L
def zMS (l : Launch) (y : MethodName) (ws : List Cond) (fr lo mc ms : Nat) (G : zGt) (L : List Nat) (F : Nat → va_E) (b N : Nat) (xs : Nat → Int32) (as : List Value) (post : zPt) : Prop :=
  ∀ sz : Nat, Met l y ws { frames := fr, cells := mc, slots := ms, locals := lo } (va_Pc as (zPreS G L F sz b N xs)) (zQ G post (zA L sz)) mc ms (zA L sz)
theorem zPreS_blind {sz b N : Nat} {xs : Nat → Int32} {as : List Value} : FrameBlind (va_Pc as (zPreS G L F sz b N xs)) := by
  intro a U g mk q
  obtain ⟨q0, q1, q2, q3, q4⟩ := q
  exact ⟨q0, (zPre_blind (as := as) a U g mk ⟨q0, q1⟩).2, va_X.moved (u := U) (U := U.calling g mk a) (Vm.Alike.refl U.vm) q2, q3, q4⟩
variable {mc ms : Nat} {post : zPt}
theorem z_ofS {as : List Value} {ws ws' : List Cond} {y : MethodName} {fr lo b N : Nat} {xs : Nat → Int32} (hlst : l.stackTraces = false) (hy : plainName y.cls = true) (hw : ws = Cond.code y cc nL ret9 :: ws') (hcls : y.cls = own) (hn : (lg_sl as).length ≤ nL)
    (body : ∀ (p : Program) (e : Env) (s : State) (m : MethodId) (below : List Frame) (meth : Method) (c : Code) (A : Nat → Prop), va_X b N xs s s.heap → b < s.heap.size → ¬ A b → zC p l s m as.toArray meth c cc nL ws own ret9 G A →
      zW p l e { frames := fr, cells := mc, slots := ms, locals := lo } s m as.toArray below meth c nL G A (MQ below (zQ G post A) as.toArray s mc ms A) 0 0 L F 0 (lv_args 0 as) []) : zMS l y ws fr lo mc ms G L F b N xs as post := by
  intro sz
  refine Met.ofW (cc := cc) (maxL := nL) (ret := ret9) hy hw ?_
  intro p e s m args below meth c s₁ B hml hv
  obtain ⟨ha, hv0, hX, hb1, hb2⟩ := id hv
  subst ha
  have hsz : s.heap.size = sz := hv0.1
  exact z_begin (ws' := ws') hlst hcls B hml ⟨rfl, hv0⟩ hn (fun C => body p e s m below meth c _ hX (by rw [hsz]; exact hb1) (fun h => h.elim hb2 (fun h9 => absurd hb1 (Nat.not_lt.mpr h9))) C)
theorem z_callSS (C : zC p l s m args meth c cc nL Ts own ret9 G A) {b N : Nat} {xs : Nat → Int32} (hX : va_X b N xs s s.heap) (hbl : b < s.heap.size) (hbA : ¬ A b) {y : MethodName} {ws : List Cond} {fr lo : Nat} {bytes : ByteArray} {maxL n index : Nat} {ry : Option FieldType} {As : List Value} (hM : zMS l y ws fr lo mc ms G L F b N xs As post) (cw : CallB R s args own index y bytes maxL ry ws { frames := fr, cells := mc, slots := ms, locals := lo } mc ms n ∧ (Cond.static y).before args s = true) (hn : As.length = n) (hst : (st.map fun v => v.category).sum ≤ 8) (hf : ce + mc ≤ R.cells ∧ sl + ms ≤ R.slots) (d : decode cc pc = .ok (.invokestatic index, 3)) (kk : ∀ (rv : Option Value) (L' : List Nat) (F' : Nat → va_E), post rv L' F' → zW p l e R s m args below meth c nL G A Q (ce + mc) (sl + ms) (L') (F') (pc + 3) lv (rv.toList ++ st)) : zW p l e R s m args below meth c nL G A Q ce sl L F pc lv (As.reverse ++ st) := by
  refine z_after (a := As.toArray) C (fun H locs ls hP hD hS hl => ?_) kk
  exact va_runS C.1 (hM H.size) cw ⟨zPreS_blind, fun U hU hW => ⟨rfl, (z_pre C hP hD hS As U hU hW).2, by rw [hU]; exact (hX.moved hW.alike).kept (hS.2.1 b hbl hbA), Nat.lt_of_lt_of_le hbl hS.1, fun h => hbA (zD_in hD b h)⟩⟩ rfl hn hl.1 rfl (lv_room hst) d hf
end ZL
theorem nI_nz {d : Nat} (h0 : 0 < d) (hd : d < 2147483648) : ¬ nI d = 0 := fun h => absurd (nIe hd (by decide) (h.trans nI_0.symm)) (by omega)
set_option maxHeartbeats 4000000 in
set_option maxRecDepth 100000 in
theorem c_L_cell (l : Launch) (hlst : l.stackTraces = false) (G : zGt) (L : List Nat) (F : Nat → va_E) (b N : Nat) (xs : Nat → Int32) (hN : N ≤ 260) (k : Nat) (hk : k < 1000) : zMS l yL_cell wsL_cell 1 24 0 0 G L F b N xs [.ref b, .int (nI k)] (fun rv L1 F1 => ∃ v : Int32, rv = some (.int v) ∧ L1 = L ∧ F1 = F) := by
  refine z_ofS (cc := cL_cell) (nL := 2) (ret9 := some .int) (own := RL) hlst (by decide +kernel) rfl rfl (Nat.le_of_ble_eq_true rfl) ?_
  intro p e s m below meth c A hX hbl hbA C
  refine z_lvs (lv' := [(0, .ref b), (1, .int (nI k))]) rfl ?_
  refine z_iload_n C dL_cell_0 rfl 1 rfl ?_
  refine z_aload_n C dL_cell_1 rfl 0 rfl ?_
  refine z_slen C hX hbl hbA dL_cell_2 ?_
  refine z_icmp_ge C 12 (((N : Nat) : Int) ≤ ((k : Nat) : Int)) (zi_le (zi_N (n := N) (by omega)) (zi_N (n := k) (by omega))) dL_cell_3 (by decide) (fun c1 => ?_) (fun c1 => ?_)
  · refine z_ldcI C (nI 1026267105) (by decide +kernel) dL_cell_12 ?_
    refine z_iload_n C dL_cell_14 rfl 1 rfl ?_
    refine z_iconst C (nI 1) dL_cell_15 (by decide) ?_
    refine z_iadd C (nI (k + 1)) dL_cell_16 (nI_add k 1) ?_
    refine z_imul C (nI 1026267105 * nI (k + 1)) dL_cell_17 rfl ?_
    exact z_iret0 C rfl rfl (by decide) (by decide) dL_cell_18 ⟨_, rfl, rfl, rfl⟩
  · refine z_aload_n C dL_cell_6 rfl 0 rfl ?_
    refine z_iload_n C dL_cell_7 rfl 1 rfl ?_
    refine z_sld C hX hbl hbA (by omega) (by omega) dL_cell_8 ?_
    refine z_goto C 18 dL_cell_9 (by decide) ?_
    exact z_iret0 C rfl rfl (by decide) (by decide) dL_cell_18 ⟨_, rfl, rfl, rfl⟩
set_option maxHeartbeats 4000000 in
set_option maxRecDepth 100000 in
theorem c_L_at (l : Launch) (hlst : l.stackTraces = false) (G : zGt) (L : List Nat) (F : Nat → va_E) (a d : Nat) (ha : a < 2147483648) (hd0 : 0 < d) (hd : d < 2147483648) : zM l yL_at wsL_at 1 24 0 0 G L F [.int (nI a), .int (nI d)] (fun rv L1 F1 => ∃ r : Nat, r < d ∧ rv = some (.int (nI r)) ∧ L1 = L ∧ F1 = F) := by
  refine z_of (cc := cL_at) (nL := 2) (ret := some .int) (own := RL) hlst (by decide +kernel) rfl rfl (Nat.le_of_ble_eq_true rfl) ?_
  intro p e s m below meth c A hnm C
  refine z_lvs (lv' := [(0, .int (nI a)), (1, .int (nI d))]) rfl ?_
  refine z_iload_n C dL_at_0 rfl 0 rfl ?_
  refine z_iconst C (nI 1) dL_at_1 (by decide) ?_
  have ha1 : a / 2 ^ 1 < 2147483648 := Nat.lt_of_le_of_lt (Nat.div_le_self _ _) ha
  refine z_iushr C (nI (a / 2 ^ 1)) dL_at_2 (pk_ushrN (by omega) (nI 1) 1 (by decide)) ?_
  refine z_iload_n C dL_at_3 rfl 1 rfl ?_
  refine z_irem C (nI (a / 2 ^ 1 % d)) dL_at_4 (nI_nz hd0 hd) (pk_rem (a := a / 2 ^ 1) (d := d) (by omega) hd0 (by omega)) ?_
  exact z_iret0 C rfl rfl (by decide) (by decide) dL_at_5 ⟨a / 2 ^ 1 % d, Nat.mod_lt _ hd0, rfl, rfl, rfl⟩
-- bounds
theorem tk_12 {n now : Nat} {fd : Nat → FdT} (hn : n ≤ 12) (hok : ∀ j, j < n → fOk now (fd j)) : smV (fun j => fTk (fd j)) n ≤ 23976 := Nat.le_trans (smV_12 hn (fun j hj => fTk_le (hok j hj))) (Nat.le_of_ble_eq_true rfl)
theorem rs_12 {n now : Nat} {fd : Nat → FdT} (hn : n ≤ 12) (hok : ∀ j, j < n → fOk now (fd j)) : smV (fun j => fRs (fd j)) n ≤ 23976 := Nat.le_trans (smV_12 hn (fun j hj => fRs_le (hok j hj))) (Nat.le_of_ble_eq_true rfl)
theorem cd_12 {n now : Nat} {fd : Nat → FdT} (hn : n ≤ 12) (hok : ∀ j, j < n → fOk now (fd j)) : smV (fun j => cdV (fd j)) n ≤ 23976 := Nat.le_trans (smV_12 hn (fun j hj => by
  have := fRs_le (hok j hj)
  show cdV (fd j) ≤ 1998
  unfold cdV
  split <;> omega)) (Nat.le_of_ble_eq_true rfl)
theorem sT_12 {n now b : Nat} {fd : Nat → FdT} (hn : n ≤ 12) (hok : ∀ j, j < n → fOk now (fd j)) : sT fd b n ≤ 23976 := by
  rw [← reT_sT]
  refine Nat.le_trans (smV_12 (B := 1998) hn (fun j hj => ?_)) (Nat.le_of_ble_eq_true rfl)
  have := fTk_le (hok j hj)
  show reT b j (fd j) ≤ 1998
  unfold reT
  split <;> omega
theorem ho_12 {n now : Nat} {fd : Nat → FdT} (hn : n ≤ 12) (hnow : now ≤ 60000) (hok : ∀ j, j < n → fOk now (fd j)) : smV (fun j => fHo (fd j)) n ≤ 720000 := Nat.le_trans (smV_12 (B := 60000) hn (fun j hj => Nat.le_trans (hok j hj).2.2.2.2.2.1 hnow)) (Nat.le_of_ble_eq_true rfl)
theorem hp_12 {n now h : Nat} {fd : Nat → FdT} (hn : n ≤ 12) (hnow : now ≤ 60000) (hh : h ≤ 100) (hok : ∀ j, j < n → fOk now (fd j)) : smV (fun j => hpV h (fd j)) n ≤ 721200 := Nat.le_trans (smV_12 (B := 60100) hn (fun j hj => by
  have := (hok j hj).2.2.2.2.2.1
  show hpV h (fd j) ≤ 60100
  unfold hpV
  split <;> omega)) (Nat.le_of_ble_eq_true rfl)
end
