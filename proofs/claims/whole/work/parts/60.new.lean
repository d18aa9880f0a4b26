/-! rows that make cells: new objects and arrays, constructors; calls on a part of the world -/
theorem wa_int : Cond.arrayClass .int ∈ TB := tb_of (List.mem_append_right _ (List.mem_of_getElem? (i := 64) (by decide +kernel))) (by decide +kernel)
theorem wa_long : Cond.arrayClass .long ∈ TB := tb_of (List.mem_append_right _ (List.mem_of_getElem? (i := 165) (by decide +kernel))) (by decide +kernel)
theorem wo_X0 : Cond.arrayOver (.object RX0) ∈ lw_tbl := List.mem_append_right _ (List.mem_of_getElem? (i := 31) (by decide +kernel))
theorem wo_X1 : Cond.arrayOver (.object RX1) ∈ lw_tbl := List.mem_append_right _ (List.mem_of_getElem? (i := 144) (by decide +kernel))
theorem wj_inst : Cond.instanceMethod objectInit ∈ TB := tb_of (List.mem_append_right _ (List.mem_of_getElem? (i := 22) (by decide +kernel))) (by decide +kernel)
theorem wj_code : Cond.code objectInit ⟨#[0xb1]⟩ 1 none ∈ TB := tb_of (List.mem_append_right _ (List.mem_of_getElem? (i := 23) (by decide +kernel))) (by decide +kernel)
/-- words that stand beside the tables' -/
def NF (U : State) : Prop := va_Nw (.methodLinkNest RX4 40 yX0_init "NamedFountains") U ∧ va_Nw (.methodLinkNest RX5 28 yX2_init "NamedFountains") U ∧ va_Nw (.methodLinkNest RX5 44 yX1_init "NamedFountains") U ∧ va_AO RX0 U ∧ va_AO RX1 U
theorem NF.warm {s U : State} (hW : s.WarmedH U.vm) (h : NF s) : NF U := ⟨h.1.warmM hW, h.2.1.warmM hW, h.2.2.1.warmM hW, h.2.2.2.1.moved hW.alike, h.2.2.2.2.moved hW.alike⟩
theorem NF.same {s U : State} (hv : s.vm = U.vm) (h : NF s) : NF U := ⟨h.1.same rfl hv, h.2.1.same rfl hv, h.2.2.1.same rfl hv, h.2.2.2.1.moved (by rw [← hv]; exact Vm.Alike.refl s.vm), h.2.2.2.2.moved (by rw [← hv]; exact Vm.Alike.refl s.vm)⟩
/-- worlds side by side -/
theorem va_P_l {D : va_G} {cl : List vw_C} {w1 w2 : va_W} {H : Heap} (h : va_P D cl (w1 ++ w2) H) : va_P D cl w1 H := fun k q hk => h k q (by rw [List.getElem?_append_left (List.getElem?_eq_some_iff.mp hk).1]; exact hk)
theorem app_r {α : Type} {w1 w2 : List α} {k : Nat} {q : α} (hk : w2[k]? = some q) : (w1 ++ w2)[w1.length + k]? = some q := by rw [List.getElem?_append_right (Nat.le_add_right _ _), Nat.add_sub_cancel_left]; exact hk
theorem app_l {α : Type} {w1 w2 : List α} {k : Nat} {q : α} (hk : w1[k]? = some q) : (w1 ++ w2)[k]? = some q := by rw [List.getElem?_append_left (List.getElem?_eq_some_iff.mp hk).1]; exact hk
theorem va_P_r {D : va_G} {cl : List vw_C} {w1 w2 : va_W} {H : Heap} (h : va_P D cl (w1 ++ w2) H) : va_P D cl w2 H := fun k q hk => h (w1.length + k) q (app_r hk)
theorem va_D_l {A : Nat → Prop} {w1 w2 : va_W} (h : va_D A (w1 ++ w2)) : va_D A w1 := ⟨fun i j p q hi hj e => h.1 i j p q (app_l hi) (app_l hj) e, fun k q hk => h.2 k q (app_l hk)⟩
theorem va_D_r {A : Nat → Prop} {w1 w2 : va_W} (h : va_D A (w1 ++ w2)) : va_D A w2 := ⟨fun i j p q hi hj e => by have := h.1 _ _ p q (app_r hi) (app_r hj) e; omega, fun k q hk => h.2 _ q (app_r hk)⟩
theorem va_D_x {A : Nat → Prop} {w1 w2 : va_W} (h : va_D A (w1 ++ w2)) : ∀ (i j : Nat) (p q : Nat × va_E), w1[i]? = some p → w2[j]? = some q → p.1 ≠ q.1 := fun i j p q hi hj e => by
  have a := h.1 _ _ p q (app_l hi) (app_r hj) e
  have b := (List.getElem?_eq_some_iff.mp hi).1
  omega
/-- behind a call on the last part -/
theorem join2 {A0 : Nat → Prop} {D : va_G} {cl : List vw_C} {wr wc w1 : va_W} {H H1 : Heap} (hP : va_P D cl (wr ++ wc) H) (hD : va_D A0 (wr ++ wc)) (hk : ∀ q : Nat, q < H.size → ¬ va_A wc H.size q → H1[q]? = H[q]?) (hF : ∀ q, va_A wc H.size q → A0 q) (hP1 : va_P D cl w1 H1) (hD1 : va_D (va_A wc H.size) w1) : va_P D cl (wr ++ w1) H1 ∧ va_D A0 (wr ++ w1) := by
  have apart : ∀ (k : Nat) (q : Nat × va_E), wr[k]? = some q → q.1 < H.size ∧ ¬ va_A wc H.size q.1 := by
    intro k q hq
    have hl := (va_P_l hP k q hq).lt
    refine ⟨hl, fun h => ?_⟩
    rcases h with ⟨k2, e, h⟩ | h
    · exact va_D_x hD k k2 q (q.1, e) hq h rfl
    · omega
  refine ⟨va_P.app (fun k q hq => ?_) hP1, va_D.app (va_D_l hD) (hD1.weaken (fun k q _ h => hF q.1 h)) (fun i j x y hx hy hxy => ?_)⟩
  · obtain ⟨g1, g2⟩ := apart k q hq
    exact (va_P_l hP k q hq).kept (hk q.1 g1 g2)
  · exact (apart i x hx).2 (by rw [hxy]; exact hD1.2 j y hy)
theorem va_A_part {A0 : Nat → Prop} {wr wc : va_W} {H0 H : Heap} {locs : List Loc} (hD : va_D A0 (wr ++ wc)) (hS : va_S A0 H0 H locs) (hA : ∀ q, H0.size ≤ q → A0 q) : ∀ q, va_A wc H.size q → A0 q := va_A_self (va_D_r hD) hS hA
theorem pre_part {p : Program} {s : State} {m : MethodId} {args : Array Value} {meth : Method} {c : Code} {nL : Nat} {G : GT} {A : Nat → Prop} {cc : ByteArray} {own : String} (E : CT p s m args meth c nL G A cc own) {wr wc : va_W} {H : Heap} {locs : List Loc} (hD : va_D A (wr ++ wc)) (hP : va_P G.1 vwCl (wr ++ wc) H) (hS : va_S A s.heap H locs) {U : State} (hU : U.heap = H) (hW : s.WarmedH U.vm) : PreC G wc H.size U := pre_of E (va_D_r hD) (va_P_r hP) hS hU hW
/-- constructors' contracts: new cells come, the world behind it is told by P -/
def PreN (G : GT) (ws : va_W) (sz : Nat) (U : State) : Prop := PreC G ws sz U ∧ NF U
def rmN (d mc ms : Nat) : Room := { frames := d, cells := mc, slots := ms, locals := 40 * d }
def CtN (l : Launch) (G : GT) (y : MethodName) (bytes : ByteArray) (maxL d mc ms : Nat) (av : List Value) (ws : va_W) (P : va_W → Prop) : Prop :=
  ∀ sz : Nat, Met l y (Cond.code y bytes maxL none :: TB) (rmN d mc ms) (va_Pc av (PreN G ws sz)) (va_Qv (fun w : va_W => P w) (fun w t => PosC G (va_A ws sz) w () t) (va_A ws sz)) mc ms (va_A ws sz)
abbrev QN (below : List Frame) (args : Array Value) (s : State) (G : GT) (A : Nat → Prop) (mc ms : Nat) (P : va_W → Prop) : State → Prop := MQ below (va_Qv (fun w : va_W => P w) (fun w t => PosC G A w () t) A) args s mc ms A
theorem preN_blind {G : GT} {ws : va_W} {sz : Nat} {av : List Value} : FrameBlind (va_Pc av (PreN G ws sz)) := fun a U g mk q => by
  obtain ⟨q0, ⟨q1, q2, q3, q4, q5⟩, q6⟩ := q
  exact ⟨q0, ⟨q1, q2, va_K.moved (u := U) (U := U.calling g mk a) (Vm.Alike.refl U.vm) q3, q4, SW.same (s := U) rfl q5⟩, NF.same (s := U) rfl q6⟩
theorem CtN.of {l : Launch} {G : GT} {y : MethodName} {bytes : ByteArray} {maxL d mc ms : Nat} {av : List Value} {ws : va_W} {P : va_W → Prop} (hy : plainName y.cls = true) (hav : (lg_sl av).length ≤ maxL) (hyn : y.name = "<init>")
    (h : ∀ (p : Program) (e : Env) (s : State) (m : MethodId) (args : Array Value) (below : List Frame) (meth : Method) (c : Code) (A : Nat → Prop), CT p s m args meth c maxL G A bytes y.cls → meth.sig.returnType = none → meth.name = "<init>" → NF s → JX p l e (rmN d mc ms) s m args below meth c maxL G A 0 0 (QN below args s G A mc ms P) ws 0 (lv_args 0 av) []) : CtN l G y bytes maxL d mc ms av ws P := by
  intro sz
  refine Met.ofW (cc := bytes) (maxL := maxL) (ret := none) hy rfl ?_
  intro p e s m args below meth c s₁ B hml hv
  obtain ⟨rfl, ⟨hsz, hP, hK, hD0, hSW⟩, hN⟩ := hv
  subst hsz
  have hD := hD0.self (sz := s.heap.size)
  have hts := atoms_spec (ws := Cond.code y bytes maxL none :: TB) B.pre
  have hl := lv_entry av (n := maxL) hav
  rw [lg_entry_eq]
  generalize (lg_sl av ++ List.replicate (maxL - (lg_sl av).length) Slot.unset).toArray = ls at hl ⊢
  exact h p e s m _ below meth c (va_A ws s.heap.size) ⟨B.exec, B.bytes, hml, findClass_of_methodNamed B.named, fun w hw => hts w (List.mem_cons_of_mem _ hw), hK, fun q hq => Or.inr hq, hSW, B.notSynchronized⟩ B.returns (by rw [← hyn]; exact (name_of_methodNamed B.named B.method).1) hN hD s.heap [] ls hP va_S.rf hl
section JXN
variable {p : Program} {l : Launch} {e : Env} {R : Room} {s : State} {m : MethodId} {args : Array Value} {below : List Frame} {meth : Method} {c : Code} {nL : Nat} {G : GT} {A : Nat → Prop} {kc ks : Nat} {Q : State → Prop} {ws : va_W} {pc : Nat} {lv : List (Nat × Value)} {st : List Value} {cc : ByteArray} {own : String}
theorem jx_new (E : CT p s m args meth c nL G A cc own) {C : String} {T : u_T} {N ci i : Nat} {ty : Nat → FieldType} (F : FC ci C T N ty) (hcl : Cond.classLink own i C ∈ TB) (hinst : Cond.instantiable C N ∈ TB) (hini : Cond.initialized C ∈ TB) {fs : List Value} (hfs : ∀ j, j < N → defaultValue (ty j) = vp_V fs j) (hd : decode cc pc = .ok (.new i, 3)) (k : ∀ q : Nat, JX p l e R s m args below meth c nL G A (kc + 1) (ks + N) Q (ws ++ [(q, .inr (ci, fs))]) (pc + 3) lv (.ref q :: st)) (hRc : kc + 1 ≤ R.cells := by decide) (hRs : ks + N ≤ R.slots := by decide) : JX p l e R s m args below meth c nL G A kc ks Q ws pc lv st := fun hD H locs ls hP hS hl =>
  va_new E.1 E.2.1 E.2.2.2.2.1 F.2.1 ty F.2.2.2.1 E.2.2.2.1 (E.2.2.2.2.1 _ hcl) (E.2.2.2.2.1 _ hinst) (E.2.2.2.2.1 _ hini) E.2.2.2.2.2.1 hP hD hS E.2.2.2.2.2.2.1 F.1 hfs hRc hRs hd (fun q H1 hP1 hD1 hS1 => k q hD1 H1 locs ls hP1 hS1 hl)
theorem jx_newi (E : CT p s m args meth c nL G A cc own) (N : Nat) {n : Int} (hnN : n = (N : Int)) (hN : N ≤ 1000) (hd : decode cc pc = .ok (.newarray .int, 2)) (k : ∀ q : Nat, JX p l e R s m args below meth c nL G A (kc + 1) (ks + N) Q (ws ++ [(q, .inl (G.2.1 0, N, .inl (fun _ => 0)))]) (pc + 2) lv (.ref q :: st)) (hRc : kc + 1 ≤ R.cells := by decide) (hRs : ks + N ≤ R.slots := by decide) : JX p l e R s m args below meth c nL G A kc ks Q ws pc lv (vI n :: st) := fun hD H locs ls hP hS hl => by
  refine va_newa E.1 E.2.1 (atype := .int) (E.2.2.2.2.1 _ wa_int) (ty := .int) rfl E.2.2.2.2.2.1 hP hD hS E.2.2.2.2.2.2.1 (n := iI n) (N' := N) (a0 := (N, .inl (fun _ => 0))) (fun _ => rfl) (fun h => by have := (iI_lt (x := n) (y := 0) ⟨by omega, by omega⟩ ⟨by decide, by decide⟩).mp h; omega) (by rw [iI_cl (by omega) (by omega)]; omega) (by show N * _ ≤ _; exact Nat.le_trans (Nat.mul_le_mul_right _ hN) (by decide)) hRc hRs hd (fun q cA H1 hK1 hP1 hD1 hS1 => ?_)
  have e1 : va_RA s cA .int := (hK1.2 4 (cA, .int) rfl).2
  have e2 : va_RA s (G.2.1 0) .int := (E.2.2.2.2.2.1.2 0 _ rfl).2
  have e3 : cA = G.2.1 0 := Option.some.inj (Eq.trans (Eq.symm e1) e2)
  subst e3
  exact k q hD1 H1 locs ls hP1 hS1 hl
theorem jx_newl (E : CT p s m args meth c nL G A cc own) (N : Nat) {n : Int} (hnN : n = (N : Int)) (hN : N ≤ 1000) (hd : decode cc pc = .ok (.newarray .long, 2)) (k : ∀ q : Nat, JX p l e R s m args below meth c nL G A (kc + 1) (ks + N) Q (ws ++ [(q, .inl (G.2.1 1, N, .inr (.inl (fun _ => 0))))]) (pc + 2) lv (.ref q :: st)) (hRc : kc + 1 ≤ R.cells := by decide) (hRs : ks + N ≤ R.slots := by decide) : JX p l e R s m args below meth c nL G A kc ks Q ws pc lv (vI n :: st) := fun hD H locs ls hP hS hl => by
  refine va_newa E.1 E.2.1 (atype := .long) (E.2.2.2.2.1 _ wa_long) (ty := .long) rfl E.2.2.2.2.2.1 hP hD hS E.2.2.2.2.2.2.1 (n := iI n) (N' := N) (a0 := (N, .inr (.inl (fun _ => 0)))) (fun _ => rfl) (fun h => by have := (iI_lt (x := n) (y := 0) ⟨by omega, by omega⟩ ⟨by decide, by decide⟩).mp h; omega) (by rw [iI_cl (by omega) (by omega)]; omega) (by show N * _ ≤ _; exact Nat.le_trans (Nat.mul_le_mul_right _ hN) (by decide)) hRc hRs hd (fun q cA H1 hK1 hP1 hD1 hS1 => ?_)
  have e1 : va_RA s cA .long := (hK1.2 4 (cA, .long) rfl).2
  have e2 : va_RA s (G.2.1 1) .long := (E.2.2.2.2.2.1.2 1 _ rfl).2
  have e3 : cA = G.2.1 1 := Option.some.inj (Eq.trans (Eq.symm e1) e2)
  subst e3
  exact k q hD1 H1 locs ls hP1 hS1 hl
theorem jx_newq (E : CT p s m args meth c nL G A cc own) (t0 N : Nat) {C : String} {cT : ClassId} {i : Nat} (ht : (tysG G)[t0]? = some (cT, .object C)) (hcl : Cond.classLink own i C ∈ TB) (ho : va_AO C s) {n : Int} (hnN : n = (N : Int)) (hN : N ≤ 1000) (hd : decode cc pc = .ok (.anewarray i, 3)) (k : ∀ q : Nat, JX p l e R s m args below meth c nL G A (kc + 1) (ks + N) Q (ws ++ [(q, .inl (cT, N, .inr (.inr (.inr (.inr (fun _ => none))))))]) (pc + 3) lv (.ref q :: st)) (hRc : kc + 1 ≤ R.cells := by decide) (hRs : ks + N ≤ R.slots := by decide) : JX p l e R s m args below meth c nL G A kc ks Q ws pc lv (vI n :: st) := fun hD H locs ls hP hS hl => by
  refine va_newq E.1 E.2.1 E.2.2.2.1 (E.2.2.2.2.1 _ hcl) ho E.2.2.2.2.2.1 hP hD hS E.2.2.2.2.2.2.1 (n := iI n) (N' := N) (fun h => by have := (iI_lt (x := n) (y := 0) ⟨by omega, by omega⟩ ⟨by decide, by decide⟩).mp h; omega) (by rw [iI_cl (by omega) (by omega)]; omega) (by omega) hRc hRs hd (fun q cA H1 hK1 hP1 hD1 hS1 => ?_)
  obtain ⟨kA, comp, -, -, -, e1⟩ : va_RA s cA (.object C) := (hK1.2 4 (cA, .object C) rfl).2
  obtain ⟨kB, comp2, -, -, -, e2⟩ : va_RA s cT (.object C) := (E.2.2.2.2.2.1.2 t0 _ ht).2
  have e3 : cA = cT := Option.some.inj (Eq.trans (Eq.symm e1) e2)
  subst e3
  exact k q hD1 H1 locs ls hP1 hS1 hl
theorem jx_oinit (E : CT p s m args meth c nL G A cc own) {i o : Nat} (hlink : Cond.methodLink own i objectInit ∈ TB) (hd : decode cc pc = .ok (.invokespecial i, 3)) (k : JX p l e R s m args below meth c nL G A kc ks Q ws (pc + 3) lv st) (hRf : 1 ≤ R.frames := by decide) (hRl : (st.map fun v => v.category).sum + 12 ≤ R.locals := by exact Nat.le_of_ble_eq_true rfl) : JX p l e R s m args below meth c nL G A kc ks Q ws pc lv (.ref o :: st) := fun hD H locs ls hP hS hl =>
  W.objInit E.1 E.2.1 E.2.2.2.1 (E.2.2.2.2.1 _ hlink) (E.2.2.2.2.1 _ wj_inst) (E.2.2.2.2.1 _ wj_code) (g := F0 m pc ls (.ref o :: st)) rfl (by rw [E.2.2.1]; exact hl.1) rfl hd hRf (by show 2 * 0 + (st.map fun v => v.category).sum + 12 ≤ R.locals; omega) (k hD H locs ls hP hS hl)
theorem jx_putF (E : CT p s m args meth c nL G A cc own) (hin : meth.name = "<init>") {T : u_T} {N ci i : Nat} {ty : Nat → FieldType} (F : FC ci own T N ty) (f : Nat) {q0 o : Nat} {fs : List Value} (he : ws[q0]? = some (o, .inr (ci, fs))) (hf : f < N) (hw : Cond.fieldLink own i own (T f).2.1 (T f).2.2.1 ∈ TB) (hfin : (T f).2.2.2 = true) {v : Value} (hn : narrow (ty f) v = v) (hfit : fits (ty f) v = true) (hlen : f < fs.length) {ws' : va_W} (hs : ws.set q0 (o, .inr (ci, fs.set f v)) = ws') (hd : decode cc pc = .ok (.putfield i, 3)) (k : JX p l e R s m args below meth c nL G A kc ks Q ws' (pc + 3) lv st) : JX p l e R s m args below meth c nL G A kc ks Q ws pc lv (v :: .ref o :: st) :=
  fun hD H locs ls hP hS hl => va_putF E.1 E.2.1 E.2.2.2.2.1 F.2.1 ty F.2.2.2.1 F.2.2.2.2 E.2.2.2.1 E.2.2.2.2.2.1 hP hD hS q0 he F.1 f hf (E.2.2.2.2.1 _ hw) (fun x h => by rw [F.2.2.1 f hf] at h; exact h) hfin hin (F.2.2.1 f hf) (F.2.2.2.1 f hf) hn hfit hlen hd (fun H1 locs1 hP1 hD1 hS1 => k (hs ▸ hD1) H1 locs1 ls (hs ▸ hP1) hS1 hl)
theorem jx_aast (E : CT p s m args meth c nL G A cc own) (q0 t0 qk ci : Nat) {o n v : Nat} {cT : ClassId} {r : vw_C} {vs : List Value} {f : Nat → Option Nat} {i : Int} (ha : ws[q0]? = some (o, .inl (cT, n, .inr (.inr (.inr (.inr f)))))) (ht : (tysG G)[t0]? = some (cT, .object r.1)) (hv : ws[qk]? = some (v, .inr (ci, vs))) (hc : vwCl[ci]? = some r) {ws' : va_W} (hs : ws.set q0 (o, .inl (cT, n, .inr (.inr (.inr (.inr (va_up f i.toNat (some v))))))) = ws') (h0 : 0 ≤ i) (h1 : i < n) (hn : n ≤ 1000) (hd : decode cc pc = .ok (.aastore, 1)) (k : JX p l e R s m args below meth c nL G A kc ks Q ws' (pc + 1) lv st) : JX p l e R s m args below meth c nL G A kc ks Q ws pc lv (.ref v :: vI i :: .ref o :: st) := fun hD H locs ls hP hS hl =>
  va_astq E.1 E.2.1 E.2.2.2.2.2.1 hP hD hS q0 t0 qk ci ha ht hv hc (iI_in h0 h1 (by omega)) hd (by rw [iI_cl h0 (by omega), hs]; exact fun H1 locs1 hP1 hD1 hS1 => k hD1 H1 locs1 ls hP1 hS1 hl)
theorem jx_vretN {P : va_W → Prop} (E : CT p s m args meth c nL G A cc own) (hr : meth.sig.returnType = none) (hd : decode cc pc = .ok (.return_, 1)) (hw : P ws) : JX p l e R s m args below meth c nL G A kc ks (QN below args s G A kc ks P) ws pc lv [] :=
  fun hD H locs ls hP hS hl => W.vret E.1 E.2.1 hr (fun t ht hW => ⟨⟨ws, rfl, hw, by rw [ht]; exact hP, va_K.moved hW.alike E.2.2.2.2.2.1, hD⟩, hS.F ht⟩) hS.2.2 hd E.2.2.2.2.2.2.2.2
theorem jx_wid {ws' : va_W} (h : ∀ H, va_P G.1 vwCl ws H → va_P G.1 vwCl ws' H) (hD9 : va_D A ws → va_D A ws') (k : JX p l e R s m args below meth c nL G A kc ks Q ws' pc lv st) : JX p l e R s m args below meth c nL G A kc ks Q ws pc lv st := fun hD H locs ls hP hS hl => k (hD9 hD) H locs ls (h H hP) hS hl
theorem jx_ctor (E : CT p s m args meth c nL G A cc own) (hN : NF s) {y : MethodName} {bytes : ByteArray} {maxL n d mc ms i : Nat} {wr wc : va_W} {P : va_W → Prop} {o : Nat} {st0 : List Value} (As rest : List Value) (hc : CtN l G y bytes maxL d mc ms (.ref o :: As) wc P) (hm : MB y bytes maxL none n) (hi : Cond.instanceMethod y ∈ TB) (hy : y.name = "<init>") (hlink : Cond.methodLink own i y ∈ TB) (hd : decode cc pc = .ok (.invokespecial i, 3)) (k : ∀ w1 : va_W, P w1 → JX p l e R s m args below meth c nL G A (kc + mc) (ks + ms) Q (wr ++ w1) (pc + 3) lv rest) (hst : st0 = As.reverse ++ .ref o :: rest := by rfl) (hn : As.length = n := by rfl) (hrest : (rest.map fun v => v.category).sum ≤ 8 := by exact Nat.le_of_ble_eq_true rfl) (hRf : d + 1 ≤ R.frames := by decide) (hRl : 8 + (maxL + 11) + 40 * d ≤ R.locals := by decide) (hRc : kc + mc ≤ R.cells := by decide) (hRs : ks + ms ≤ R.slots := by decide) : JX p l e R s m args below meth c nL G A kc ks Q (wr ++ wc) pc lv st0 := fun hD H locs ls hP hS hl => by
  subst hst
  have hF := va_A_part hD hS E.2.2.2.2.2.2.1
  refine va_callv (va_runI (As := As) (rest := rest) ⟨E.1, E.2.1, E.2.2.1, E.2.2.2.1, E.2.2.2.2.1⟩ (hc H.size) ⟨callB_of n E.2.2.2.2.1 (tb_ws (ws := TB) hm) rfl rfl rfl (E.2.2.2.2.1 _ hm.1) (E.2.2.2.2.1 _ hlink) hm.2.2 ⟨hRf, hRl⟩, hy, E.2.2.2.2.1 _ hi⟩ ⟨preN_blind, fun U hU hW => ⟨rfl, pre_part E hD hP hS hU hW, NF.warm hW hN⟩⟩ rfl hn hl.1 rfl (lv_room hrest) hd ⟨hRc, hRs⟩) hS (fun q _ h => hF q h) hF (fun w1 t H1 locs1 ht hvm hw hB hz1 hk1 hS1 => ?_)
  obtain ⟨j1, j2⟩ := join2 hP hD hk1 hF (ht ▸ hB.1) hB.2.2
  exact k w1 hw j2 H1 locs1 ls j1 hS1 hl
theorem jx_ctorN (E : CT p s m args meth c nL G A cc own) (hN : NF s) {y : MethodName} {bytes : ByteArray} {maxL n d mc ms i : Nat} {wr wc : va_W} {P : va_W → Prop} {o : Nat} {st0 : List Value} (As rest : List Value) (hc : CtN l G y bytes maxL d mc ms (.ref o :: As) wc P) (hm : MB y bytes maxL none n) (hi : Cond.instanceMethod y ∈ TB) (hy : y.name = "<init>") (hlink : va_Nw (.methodLinkNest own i y "NamedFountains") s) (hd : decode cc pc = .ok (.invokespecial i, 3)) (k : ∀ w1 : va_W, P w1 → JX p l e R s m args below meth c nL G A (kc + mc) (ks + ms) Q (wr ++ w1) (pc + 3) lv rest) (hst : st0 = As.reverse ++ .ref o :: rest := by rfl) (hn : As.length = n := by rfl) (hrest : (rest.map fun v => v.category).sum ≤ 8 := by exact Nat.le_of_ble_eq_true rfl) (hRf : d + 1 ≤ R.frames := by decide) (hRl : 8 + (maxL + 11) + 40 * d ≤ R.locals := by decide) (hRc : kc + mc ≤ R.cells := by decide) (hRs : ks + ms ≤ R.slots := by decide) : JX p l e R s m args below meth c nL G A kc ks Q (wr ++ wc) pc lv st0 := fun hD H locs ls hP hS hl => by
  subst hst
  have hF := va_A_part hD hS E.2.2.2.2.2.2.1
  refine va_callv (va_runIN (As := As) (rest := rest) ⟨E.1, E.2.1, E.2.2.1, E.2.2.2.1, E.2.2.2.2.1⟩ (hc H.size) ⟨va_cnB (host := "NamedFountains") n E.2.2.2.2.1 (tb_ws (ws := TB) hm) rfl rfl rfl hlink (E.2.2.2.2.1 _ hm.1) hm.2.2 ⟨hRf, hRl⟩, hy, E.2.2.2.2.1 _ hi⟩ ⟨preN_blind, fun U hU hW => ⟨rfl, pre_part E hD hP hS hU hW, NF.warm hW hN⟩⟩ rfl hn hl.1 rfl (lv_room hrest) hd ⟨hRc, hRs⟩) hS (fun q _ h => hF q h) hF (fun w1 t H1 locs1 ht hvm hw hB hz1 hk1 hS1 => ?_)
  obtain ⟨j1, j2⟩ := join2 hP hD hk1 hF (ht ▸ hB.1) hB.2.2
  exact k w1 hw j2 H1 locs1 ls j1 hS1 hl
theorem jx_partI (E : CT p s m args meth c nL G A cc own) {y : MethodName} {bytes : ByteArray} {maxL n d i : Nat} {ret : Option FieldType} {wr wc w1 : va_W} {o : Nat} {r : Int} {st0 : List Value} {q0 ci : Nat} {fs : List Value} {T : u_T} {N : Nat} {ty : Nat → FieldType} (As rest : List Value) (hc : CtI l G y bytes maxL ret d (.ref o :: As) wc r w1) (hm : MB y bytes maxL ret n) (hv : MV y) (hlink : Cond.methodLink own i y ∈ TB) (F : FC ci y.cls T N ty) (he : wc[q0]? = some (o, .inr (ci, fs))) (hd : decode cc pc = .ok (.invokevirtual i, 3)) (k : JX p l e R s m args below meth c nL G A kc ks Q (wr ++ w1) (pc + 3) lv (vI r :: rest)) (hst : st0 = As.reverse ++ .ref o :: rest := by rfl) (hn : As.length = n := by rfl) (hrest : (rest.map fun v => v.category).sum ≤ 8 := by exact Nat.le_of_ble_eq_true rfl) (hRf : d + 1 ≤ R.frames := by decide) (hRl : 8 + (maxL + 11) + 40 * d ≤ R.locals := by decide) (hRc : kc ≤ R.cells := by decide) (hRs : ks ≤ R.slots := by decide) : JX p l e R s m args below meth c nL G A kc ks Q (wr ++ wc) pc lv st0 := fun hD H locs ls hP hS hl => by
  subst hst
  have hF := va_A_part hD hS E.2.2.2.2.2.2.1
  refine va_calli (va_runV (As := As) (rest := rest) (C := y.cls) ⟨E.1, E.2.1, E.2.2.1, E.2.2.2.1, E.2.2.2.2.1⟩ (hc H.size) ⟨jx_callB E hm hlink hRf hRl, E.2.2.2.2.1 _ hv.1, E.2.2.2.2.1 _ hv.2⟩ ⟨pre_blind, va_recv E.2.2.2.2.2.1 (va_P_r hP) (q := (y.cls, T, N)) F.1 he, fun U hU hW => ⟨rfl, pre_part E hD hP hS hU hW⟩⟩ rfl hn hl.1 rfl (lv_room hrest) hd ⟨hRc, hRs⟩) hS (fun q _ h => hF q h) hF (fun q u t H1 locs1 ht hvm hw hB hz1 hk1 hS1 => ?_)
  subst hw
  obtain ⟨j1, j2⟩ := join2 hP hD hk1 hF (ht ▸ hB.1) hB.2.2
  exact k j2 H1 locs1 ls j1 hS1 hl
theorem jx_partL (E : CT p s m args meth c nL G A cc own) {y : MethodName} {bytes : ByteArray} {maxL n d i : Nat} {ret : Option FieldType} {wr wc w1 : va_W} {o : Nat} {r : Int} {st0 : List Value} {q0 ci : Nat} {fs : List Value} {T : u_T} {N : Nat} {ty : Nat → FieldType} (As rest : List Value) (hc : CtL l G y bytes maxL ret d (.ref o :: As) wc r w1) (hm : MB y bytes maxL ret n) (hv : MV y) (hlink : Cond.methodLink own i y ∈ TB) (F : FC ci y.cls T N ty) (he : wc[q0]? = some (o, .inr (ci, fs))) (hd : decode cc pc = .ok (.invokevirtual i, 3)) (k : JX p l e R s m args below meth c nL G A kc ks Q (wr ++ w1) (pc + 3) lv (vL r :: rest)) (hst : st0 = As.reverse ++ .ref o :: rest := by rfl) (hn : As.length = n := by rfl) (hrest : (rest.map fun v => v.category).sum ≤ 8 := by exact Nat.le_of_ble_eq_true rfl) (hRf : d + 1 ≤ R.frames := by decide) (hRl : 8 + (maxL + 11) + 40 * d ≤ R.locals := by decide) (hRc : kc ≤ R.cells := by decide) (hRs : ks ≤ R.slots := by decide) : JX p l e R s m args below meth c nL G A kc ks Q (wr ++ wc) pc lv st0 := fun hD H locs ls hP hS hl => by
  subst hst
  have hF := va_A_part hD hS E.2.2.2.2.2.2.1
  refine va_calll (va_runV (As := As) (rest := rest) (C := y.cls) ⟨E.1, E.2.1, E.2.2.1, E.2.2.2.1, E.2.2.2.2.1⟩ (hc H.size) ⟨jx_callB E hm hlink hRf hRl, E.2.2.2.2.1 _ hv.1, E.2.2.2.2.1 _ hv.2⟩ ⟨pre_blind, va_recv E.2.2.2.2.2.1 (va_P_r hP) (q := (y.cls, T, N)) F.1 he, fun U hU hW => ⟨rfl, pre_part E hD hP hS hU hW⟩⟩ rfl hn hl.1 rfl (lv_room hrest) hd ⟨hRc, hRs⟩) hS (fun q _ h => hF q h) hF (fun q u t H1 locs1 ht hvm hw hB hz1 hk1 hS1 => ?_)
  subst hw
  obtain ⟨j1, j2⟩ := join2 hP hD hk1 hF (ht ▸ hB.1) hB.2.2
  exact k j2 H1 locs1 ls j1 hS1 hl
theorem jx_partE (E : CT p s m args meth c nL G A cc own) {y : MethodName} {bytes : ByteArray} {maxL n d i : Nat} {ret : Option FieldType} {wr wc : va_W} {wf : (Int → Int) → va_W} {o : Nat} {r : Int} {st0 : List Value} {q0 ci : Nat} {fs : List Value} {T : u_T} {N : Nat} {ty : Nat → FieldType} (As rest : List Value) (hc : CtE l G y bytes maxL ret d (.ref o :: As) wc r wf) (hm : MB y bytes maxL ret n) (hv : MV y) (hlink : Cond.methodLink own i y ∈ TB) (F : FC ci y.cls T N ty) (he : wc[q0]? = some (o, .inr (ci, fs))) (hd : decode cc pc = .ok (.invokevirtual i, 3)) (k : ∀ u : Int → Int, JX p l e R s m args below meth c nL G A kc ks Q (wr ++ wf u) (pc + 3) lv (vI r :: rest)) (hst : st0 = As.reverse ++ .ref o :: rest := by rfl) (hn : As.length = n := by rfl) (hrest : (rest.map fun v => v.category).sum ≤ 8 := by exact Nat.le_of_ble_eq_true rfl) (hRf : d + 1 ≤ R.frames := by decide) (hRl : 8 + (maxL + 11) + 40 * d ≤ R.locals := by decide) (hRc : kc ≤ R.cells := by decide) (hRs : ks ≤ R.slots := by decide) : JX p l e R s m args below meth c nL G A kc ks Q (wr ++ wc) pc lv st0 := fun hD H locs ls hP hS hl => by
  subst hst
  have hF := va_A_part hD hS E.2.2.2.2.2.2.1
  refine va_calli (va_runV (As := As) (rest := rest) (C := y.cls) ⟨E.1, E.2.1, E.2.2.1, E.2.2.2.1, E.2.2.2.2.1⟩ (hc H.size) ⟨jx_callB E hm hlink hRf hRl, E.2.2.2.2.1 _ hv.1, E.2.2.2.2.1 _ hv.2⟩ ⟨pre_blind, va_recv E.2.2.2.2.2.1 (va_P_r hP) (q := (y.cls, T, N)) F.1 he, fun U hU hW => ⟨rfl, pre_part E hD hP hS hU hW⟩⟩ rfl hn hl.1 rfl (lv_room hrest) hd ⟨hRc, hRs⟩) hS (fun q _ h => hF q h) hF (fun q u t H1 locs1 ht hvm hw hB hz1 hk1 hS1 => ?_)
  subst hw
  obtain ⟨j1, j2⟩ := join2 hP hD hk1 hF (ht ▸ hB.1) hB.2.2
  exact k u j2 H1 locs1 ls j1 hS1 hl
theorem va_P_sw {D : va_G} {cl : List vw_C} {w1 w2 : va_W} {H : Heap} (h : va_P D cl (w1 ++ w2) H) : va_P D cl (w2 ++ w1) H := va_P.app (va_P_r h) (va_P_l h)
theorem va_D_sw {A : Nat → Prop} {w1 w2 : va_W} (h : va_D A (w1 ++ w2)) : va_D A (w2 ++ w1) := va_D.app (va_D_r h) (va_D_l h) (fun i j p q hi hj e => va_D_x h j i q p hj hi e.symm)
theorem jx_sw {w1 w2 : va_W} (k : JX p l e R s m args below meth c nL G A kc ks Q (w2 ++ w1) pc lv st) : JX p l e R s m args below meth c nL G A kc ks Q (w1 ++ w2) pc lv st := jx_wid (fun _ h => va_P_sw h) va_D_sw k
end JXN
/-- worlds of the same cells -/
def sameE (p q : Nat × va_E) : Prop := p.1 = q.1 ∧ ∀ (D : va_G) (cl : List vw_C) (H : Heap), va_at D cl p H → va_at D cl q H
def sameW : va_W → va_W → Prop
  | [], [] => True
  | p :: ps, q :: qs => sameE p q ∧ sameW ps qs
  | _, _ => False
theorem sameE.rf {p : Nat × va_E} : sameE p p := ⟨rfl, fun _ _ _ h => h⟩
theorem sameW.rf : ∀ {w : va_W}, sameW w w
  | [] => trivial
  | _ :: _ => ⟨sameE.rf, sameW.rf⟩
theorem sameW.app : ∀ {a b c d : va_W}, sameW a b → sameW c d → sameW (a ++ c) (b ++ d)
  | [], [], _, _, _, h => h
  | _ :: _, _ :: _, _, _, h, g => ⟨h.1, sameW.app h.2 g⟩
  | [], _ :: _, _, _, h, _ => h.elim
  | _ :: _, [], _, _, h, _ => h.elim
theorem sameW.at : ∀ {a b : va_W}, sameW a b → ∀ (k : Nat) (q : Nat × va_E), b[k]? = some q → ∃ p, a[k]? = some p ∧ sameE p q
  | [], [], _, k, q, h => by simp at h
  | p :: _, _ :: _, s, 0, q, h => ⟨p, rfl, by cases h; exact s.1⟩
  | _ :: _, _ :: _, s, k + 1, q, h => sameW.at s.2 k q h
  | [], _ :: _, s, _, _, _ => s.elim
  | _ :: _, [], s, _, _, _ => s.elim
theorem sameW.P {a b : va_W} (h : sameW a b) {D : va_G} {cl : List vw_C} {H : Heap} (hP : va_P D cl a H) : va_P D cl b H := fun k q hk => by
  obtain ⟨p, h1, h2⟩ := h.at k q hk
  exact h2.2 D cl H (hP k p h1)
theorem sameW.D {a b : va_W} (h : sameW a b) {A : Nat → Prop} (hD : va_D A a) : va_D A b := ⟨fun i j p q hi hj e => by
  obtain ⟨p', h1, h2⟩ := h.at i p hi
  obtain ⟨q', g1, g2⟩ := h.at j q hj
  exact hD.1 i j p' q' h1 g1 (h2.1.trans (e.trans g2.1.symm)), fun k q hk => by
  obtain ⟨p, h1, h2⟩ := h.at k q hk
  rw [← h2.1]
  exact hD.2 k p h1⟩
theorem arrV_ext {c : ClassId} {n : Nat} {f g : Nat → Value} (h : ∀ j, j < n → f j = g j) : arrV c n f = arrV c n g := by
  unfold arrV
  congr 1
  exact congrArg Array.ofFn (funext fun j => h j.val j.isLt)
theorem sameE_q {o n : Nat} {c : ClassId} {f g : Nat → Option Nat} (h : ∀ j, j < n → f j = g j) : sameE (o, .inl (c, n, .inr (.inr (.inr (.inr f))))) (o, .inl (c, n, .inr (.inr (.inr (.inr g))))) := ⟨rfl, fun D cl H q => by
  show H[o]? = some (arrV c n (fun j => va_rf (g j)))
  rw [← arrV_ext (f := fun j => va_rf (f j)) (fun j hj => by rw [h j hj])]
  exact q⟩
theorem sameE_i {o n : Nat} {c : ClassId} {f g : Nat → Int32} (h : ∀ j, j < n → f j = g j) : sameE (o, .inl (c, n, .inl f)) (o, .inl (c, n, .inl g)) := ⟨rfl, fun D cl H q => by
  show H[o]? = some (arrV c n (fun j => .int (g j)))
  rw [← arrV_ext (f := fun j => .int (f j)) (fun j hj => by rw [h j hj])]
  exact q⟩
theorem sameE_l {o n : Nat} {c : ClassId} {f g : Nat → Int64} (h : ∀ j, j < n → f j = g j) : sameE (o, .inl (c, n, .inr (.inl f))) (o, .inl (c, n, .inr (.inl g))) := ⟨rfl, fun D cl H q => by
  show H[o]? = some (arrV c n (fun j => .long (g j)))
  rw [← arrV_ext (f := fun j => .long (f j)) (fun j hj => by rw [h j hj])]
  exact q⟩
