-- the law's own rows
section ZL
variable {p : Program} {l : Launch} {e : Env} {R : Room} {s : State} {m : MethodId} {args : Array Value} {below : List Frame} {meth : Method} {c : Code} {cc : ByteArray} {nL : Nat} {Ts : List Cond} {own : String} {ret9 : Option FieldType} {G : zGt} {A : Nat → Prop} {Q : State → Prop} {ce sl : Nat} {L : List Nat} {F : Nat → va_E} {pc : Nat} {lv : List (Nat × Value)} {st : List Value}
theorem z_sld (C : zC p l s m args meth c cc nL Ts own ret9 G A) {b N i : Nat} {xs : Nat → Int32} (hX : va_X b N xs s s.heap) (hbl : b < s.heap.size) (hbA : ¬ A b) (hi : i < N) (hN : N < 2147483648) (d : decode cc pc = .ok (.iaload, 1)) (kk : zW p l e R s m args below meth c nL G A Q ce sl L F (pc + 1) lv (.int (xs i) :: st)) : zW p l e R s m args below meth c nL G A Q ce sl L F pc lv (.int (nI i) :: .ref b :: st) := fun H locs ls hP hD hS hl => by
  refine va_sld C.1.1 C.1.2.1 hX hbl hbA hS (vp_in_nI hi (by omega)) d ?_
  rw [nI_clamp (by omega)]
  exact kk H locs ls hP hD hS hl
theorem z_slen (C : zC p l s m args meth c cc nL Ts own ret9 G A) {b N : Nat} {xs : Nat → Int32} (hX : va_X b N xs s s.heap) (hbl : b < s.heap.size) (hbA : ¬ A b) (d : decode cc pc = .ok (.arraylength, 1)) (kk : zW p l e R s m args below meth c nL G A Q ce sl L F (pc + 1) lv (.int (nI N) :: st)) : zW p l e R s m args below meth c nL G A Q ce sl L F pc lv (.ref b :: st) := fun H locs ls hP hD hS hl => va_slen C.1.1 C.1.2.1 hX hbl hbA hS d (kk H locs ls hP hD hS hl)
theorem z_iushr (C : zC p l s m args meth c cc nL Ts own ret9 G A) {x y : Int32} (v : Int32) (d : decode cc pc = .ok (.iushr, 1)) (hv : (x.toUInt32 >>> (y.toUInt32 &&& Int32.toUInt32 31)).toInt32 = v) (kk : zW p l e R s m args below meth c nL G A Q ce sl L F (pc + 1) lv (.int v :: st)) : zW p l e R s m args below meth c nL G A Q ce sl L F pc lv (.int y :: .int x :: st) := fun H locs ls hP hD hS hl => lv_iushr C.1.1 C.1.2.1 d hv (kk H locs ls hP hD hS hl)
theorem z_irem (C : zC p l s m args meth c cc nL Ts own ret9 G A) {x y : Int32} (v : Int32) (d : decode cc pc = .ok (.irem, 1)) (h0 : ¬ y = 0) (hv : x - x / y * y = v) (kk : zW p l e R s m args below meth c nL G A Q ce sl L F (pc + 1) lv (.int v :: st)) : zW p l e R s m args below meth c nL G A Q ce sl L F pc lv (.int y :: .int x :: st) := fun H locs ls hP hD hS hl => lv_irem C.1.1 C.1.2.1 d h0 (by rw [hv]; exact kk H locs ls hP hD hS hl)
theorem z_ixor (C : zC p l s m args meth c cc nL Ts own ret9 G A) {x y : Int32} (v : Int32) (d : decode cc pc = .ok (.ixor, 1)) (hv : x ^^^ y = v) (kk : zW p l e R s m args below meth c nL G A Q ce sl L F (pc + 1) lv (.int v :: st)) : zW p l e R s m args below meth c nL G A Q ce sl L F pc lv (.int y :: .int x :: st) := fun H locs ls hP hD hS hl => lv_ixor C.1.1 C.1.2.1 d (by rw [hv]; exact kk H locs ls hP hD hS hl)
-- a method that reads the script
def zPreS (G : zGt) (L : List Nat) (F : Nat → va_E) (sz b N : Nat) (xs : Nat → Int32) (U : State) : Prop := zPre G L F sz U ∧ va_X b N xs U U.heap ∧ b < sz ∧ ¬ b ∈ L
def zMS (l : Launch) (y : MethodName) (ws : List Cond) (fr lo mc ms : Nat) (G : zGt) (L : List Nat) (F : Nat → va_E) (b N : Nat) (xs : Nat → Int32) (as : List Value) (post : zPt) : Prop :=
  ∀ sz : Nat, Met l y ws { frames := fr, cells := mc, slots := ms, locals := lo } (va_Pc as (zPreS G L F sz b N xs)) (zQ G post (zA L sz)) mc ms (zA L sz)
theorem zPreS_blind {sz b N : Nat} {xs : Nat → Int32} {as : List Value} : FrameBlind (va_Pc as (zPreS G L F sz b N xs)) := by
  intro a U g mk q
  obtain ⟨q0, q1, q2, q3, q4⟩ := q
  exact ⟨q0, (zPre_blind (as := as) a U g mk ⟨q0, q1⟩).2, va_X.moved (u := U) (U := U.calling g mk a) (Vm.Alike.refl U.vm) q2, q3, q4⟩
variable {mc ms : Nat} {post : zPt}
theorem z_ofS {as : List Value} {ws ws' : List Cond} {y : MethodName} {fr lo b N : Nat} {xs : Nat → Int32} (hlst : l.stackTraces = false) (hy : plainName y.cls = true) (hw : ws = Cond.code y cc nL ret9 :: ws') (hcls : y.cls = own) (hn : (lg_sl as).length ≤ nL)
    (body : ∀ (p : Program) (e : Env) (s : State) (m : MethodId) (below : List Frame) (meth : Method) (c : Code) (A : Nat → Prop), va_X b N xs s s.heap → b < s.heap.size → ¬ A b → zC p l s m as.toArray meth c cc nL ws own ret9 G A →
      zW p l e { frames := fr, cells := mc, slots := ms, locals := lo } s m as.toArray below meth c nL G A (MQ below (zQ G post A) as.toArray s mc ms A) 0 0 L F 0 (lv_args 0 as) []) : zMS l y ws fr lo mc ms G L F b N xs as post := by
  intro sz
  refine Met.ofW (cc := cc) (maxL := nL) (ret := ret9) hy hw ?_
  intro p e s m args below meth c s₁ B hml hv
  obtain ⟨ha, hv0, hX, hb1, hb2⟩ := id hv
  subst ha
  have hsz : s.heap.size = sz := hv0.1
  exact z_begin (ws' := ws') hlst hcls B hml ⟨rfl, hv0⟩ hn (fun C => body p e s m below meth c _ hX (by rw [hsz]; exact hb1) (fun h => h.elim hb2 (fun h9 => absurd hb1 (Nat.not_lt.mpr h9))) C)
theorem z_callSS (C : zC p l s m args meth c cc nL Ts own ret9 G A) {b N : Nat} {xs : Nat → Int32} (hX : va_X b N xs s s.heap) (hbl : b < s.heap.size) (hbA : ¬ A b) {y : MethodName} {ws : List Cond} {fr lo : Nat} {bytes : ByteArray} {maxL n index : Nat} {ry : Option FieldType} {As : List Value} (hM : zMS l y ws fr lo mc ms G L F b N xs As post) (cw : CallB R s args own index y bytes maxL ry ws { frames := fr, cells := mc, slots := ms, locals := lo } mc ms n ∧ (Cond.static y).before args s = true) (hn : As.length = n) (hst : (st.map fun v => v.category).sum ≤ 8) (hf : ce + mc ≤ R.cells ∧ sl + ms ≤ R.slots) (d : decode cc pc = .ok (.invokestatic index, 3)) (kk : ∀ (rv : Option Value) (L' : List Nat) (F' : Nat → va_E), post rv L' F' → zW p l e R s m args below meth c nL G A Q (ce + mc) (sl + ms) (L') (F') (pc + 3) lv (rv.toList ++ st)) : zW p l e R s m args below meth c nL G A Q ce sl L F pc lv (As.reverse ++ st) := by
  refine z_after (a := As.toArray) C (fun H locs ls hP hD hS hl => ?_) kk
  exact va_runS C.1 (hM H.size) cw ⟨zPreS_blind, fun U hU hW => ⟨rfl, (z_pre C hP hD hS As U hU hW).2, by rw [hU]; exact (hX.moved hW.alike).kept (hS.2.1 b hbl hbA), Nat.lt_of_lt_of_le hbl hS.1, fun h => hbA (zD_in hD b h)⟩⟩ rfl hn hl.1 rfl (lv_room hst) d hf
end ZL
theorem nI_nz {d : Nat} (h0 : 0 < d) (hd : d < 2147483648) : ¬ nI d = 0 := fun h => absurd (nIe hd (by decide) (h.trans nI_0.symm)) (by omega)
set_option maxHeartbeats 4000000 in
set_option maxRecDepth 100000 in
theorem c_L_cell (l : Launch) (hlst : l.stackTraces = false) (G : zGt) (L : List Nat) (F : Nat → va_E) (b N : Nat) (xs : Nat → Int32) (hN : N ≤ 260) (k : Nat) (hk : k < 1000) : zMS l yL_cell wsL_cell 1 24 0 0 G L F b N xs [.ref b, .int (nI k)] (fun rv L1 F1 => ∃ v : Int32, rv = some (.int v) ∧ L1 = L ∧ F1 = F) := by
  refine z_ofS (cc := cL_cell) (nL := 2) (ret9 := some .int) (own := RL) hlst (by decide +kernel) rfl rfl (Nat.le_of_ble_eq_true rfl) ?_
  intro p e s m below meth c A hX hbl hbA C
  refine z_lvs (lv' := [(0, .ref b), (1, .int (nI k))]) rfl ?_
  refine z_iload_n C dL_cell_0 rfl 1 rfl ?_
  refine z_aload_n C dL_cell_1 rfl 0 rfl ?_
  refine z_slen C hX hbl hbA dL_cell_2 ?_
  refine z_icmp_ge C 12 (((N : Nat) : Int) ≤ ((k : Nat) : Int)) (zi_le (zi_N (n := N) (by omega)) (zi_N (n := k) (by omega))) dL_cell_3 (by decide) (fun c1 => ?_) (fun c1 => ?_)
  · refine z_ldcI C (nI 1026267105) (by decide +kernel) dL_cell_12 ?_
    refine z_iload_n C dL_cell_14 rfl 1 rfl ?_
    refine z_iconst C (nI 1) dL_cell_15 (by decide) ?_
    refine z_iadd C (nI (k + 1)) dL_cell_16 (nI_add k 1) ?_
    refine z_imul C (nI 1026267105 * nI (k + 1)) dL_cell_17 rfl ?_
    exact z_iret0 C rfl rfl (by decide) (by decide) dL_cell_18 ⟨_, rfl, rfl, rfl⟩
  · refine z_aload_n C dL_cell_6 rfl 0 rfl ?_
    refine z_iload_n C dL_cell_7 rfl 1 rfl ?_
    refine z_sld C hX hbl hbA (by omega) (by omega) dL_cell_8 ?_
    refine z_goto C 18 dL_cell_9 (by decide) ?_
    exact z_iret0 C rfl rfl (by decide) (by decide) dL_cell_18 ⟨_, rfl, rfl, rfl⟩
set_option maxHeartbeats 4000000 in
set_option maxRecDepth 100000 in
theorem c_L_at (l : Launch) (hlst : l.stackTraces = false) (G : zGt) (L : List Nat) (F : Nat → va_E) (a d : Nat) (ha : a < 2147483648) (hd0 : 0 < d) (hd : d < 2147483648) : zM l yL_at wsL_at 1 24 0 0 G L F [.int (nI a), .int (nI d)] (fun rv L1 F1 => ∃ r : Nat, r < d ∧ rv = some (.int (nI r)) ∧ L1 = L ∧ F1 = F) := by
  refine z_of (cc := cL_at) (nL := 2) (ret := some .int) (own := RL) hlst (by decide +kernel) rfl rfl (Nat.le_of_ble_eq_true rfl) ?_
  intro p e s m below meth c A hnm C
  refine z_lvs (lv' := [(0, .int (nI a)), (1, .int (nI d))]) rfl ?_
  refine z_iload_n C dL_at_0 rfl 0 rfl ?_
  refine z_iconst C (nI 1) dL_at_1 (by decide) ?_
  have ha1 : a / 2 ^ 1 < 2147483648 := Nat.lt_of_le_of_lt (Nat.div_le_self _ _) ha
  refine z_iushr C (nI (a / 2 ^ 1)) dL_at_2 (pk_ushrN (by omega) (nI 1) 1 (by decide)) ?_
  refine z_iload_n C dL_at_3 rfl 1 rfl ?_
  refine z_irem C (nI (a / 2 ^ 1 % d)) dL_at_4 (nI_nz hd0 hd) (pk_rem (a := a / 2 ^ 1) (d := d) (by omega) hd0 (by omega)) ?_
  exact z_iret0 C rfl rfl (by decide) (by decide) dL_at_5 ⟨a / 2 ^ 1 % d, Nat.mod_lt _ hd0, rfl, rfl, rfl⟩
-- bounds
theorem tk_12 {n now : Nat} {fd : Nat → FdT} (hn : n ≤ 12) (hok : ∀ j, j < n → fOk now (fd j)) : smV (fun j => fTk (fd j)) n ≤ 23976 := Nat.le_trans (smV_12 hn (fun j hj => fTk_le (hok j hj))) (Nat.le_of_ble_eq_true rfl)
theorem rs_12 {n now : Nat} {fd : Nat → FdT} (hn : n ≤ 12) (hok : ∀ j, j < n → fOk now (fd j)) : smV (fun j => fRs (fd j)) n ≤ 23976 := Nat.le_trans (smV_12 hn (fun j hj => fRs_le (hok j hj))) (Nat.le_of_ble_eq_true rfl)
theorem cd_12 {n now : Nat} {fd : Nat → FdT} (hn : n ≤ 12) (hok : ∀ j, j < n → fOk now (fd j)) : smV (fun j => cdV (fd j)) n ≤ 23976 := Nat.le_trans (smV_12 hn (fun j hj => by
  have := fRs_le (hok j hj)
  show cdV (fd j) ≤ 1998
  unfold cdV
  split <;> omega)) (Nat.le_of_ble_eq_true rfl)
theorem sT_12 {n now b : Nat} {fd : Nat → FdT} (hn : n ≤ 12) (hok : ∀ j, j < n → fOk now (fd j)) : sT fd b n ≤ 23976 := by
  rw [← reT_sT]
  refine Nat.le_trans (smV_12 (B := 1998) hn (fun j hj => ?_)) (Nat.le_of_ble_eq_true rfl)
  have := fTk_le (hok j hj)
  show reT b j (fd j) ≤ 1998
  unfold reT
  split <;> omega
theorem ho_12 {n now : Nat} {fd : Nat → FdT} (hn : n ≤ 12) (hnow : now ≤ 60000) (hok : ∀ j, j < n → fOk now (fd j)) : smV (fun j => fHo (fd j)) n ≤ 720000 := Nat.le_trans (smV_12 (B := 60000) hn (fun j hj => Nat.le_trans (hok j hj).2.2.2.2.2.1 hnow)) (Nat.le_of_ble_eq_true rfl)
theorem hp_12 {n now h : Nat} {fd : Nat → FdT} (hn : n ≤ 12) (hnow : now ≤ 60000) (hh : h ≤ 100) (hok : ∀ j, j < n → fOk now (fd j)) : smV (fun j => hpV h (fd j)) n ≤ 721200 := Nat.le_trans (smV_12 (B := 60100) hn (fun j hj => by
  have := (hok j hj).2.2.2.2.2.1
  show hpV h (fd j) ≤ 60100
  unfold hpV
  split <;> omega)) (Nat.le_of_ble_eq_true rfl)
