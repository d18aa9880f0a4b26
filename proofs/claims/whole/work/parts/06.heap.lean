/-! rows of the judgement JX: fields, arrays, calls, ends -/
def PreC (G : GT) (ws : va_W) (sz : Nat) (U : State) : Prop := U.heap.size = sz ∧ va_P G.1 vwCl ws U.heap ∧ va_K G.1 vwCl (tysG G) U ∧ va_D (fun _ => True) ws ∧ SW G (va_A ws sz) U U.heap
def PosC (G : GT) (A : Nat → Prop) (ws' : va_W) (_ : Unit) (t : State) : Prop := va_P G.1 vwCl ws' t.heap ∧ va_K G.1 vwCl (tysG G) t ∧ va_D A ws'
def CtI (l : Launch) (G : GT) (y : MethodName) (bytes : ByteArray) (maxL : Nat) (ret : Option FieldType) (d : Nat) (av : List Value) (ws : va_W) (r : Int) (ws' : va_W) : Prop :=
  ∀ sz : Nat, Met l y (Cond.code y bytes maxL ret :: TB) (rmL d) (va_Pc av (PreC G ws sz)) (va_Qi (fun (q : Int32) (_ : Unit) => q = iI r) (PosC G (va_A ws sz) ws') (va_A ws sz)) 0 0 (va_A ws sz)
def CtL (l : Launch) (G : GT) (y : MethodName) (bytes : ByteArray) (maxL : Nat) (ret : Option FieldType) (d : Nat) (av : List Value) (ws : va_W) (r : Int) (ws' : va_W) : Prop :=
  ∀ sz : Nat, Met l y (Cond.code y bytes maxL ret :: TB) (rmL d) (va_Pc av (PreC G ws sz)) (va_Ql (fun (q : Int64) (_ : Unit) => q = lI r) (PosC G (va_A ws sz) ws') (va_A ws sz)) 0 0 (va_A ws sz)
def CtV (l : Launch) (G : GT) (y : MethodName) (bytes : ByteArray) (maxL : Nat) (ret : Option FieldType) (d : Nat) (av : List Value) (ws : va_W) (ws' : va_W) : Prop :=
  ∀ sz : Nat, Met l y (Cond.code y bytes maxL ret :: TB) (rmL d) (va_Pc av (PreC G ws sz)) (va_Qv (fun (_ : Unit) => True) (PosC G (va_A ws sz) ws') (va_A ws sz)) 0 0 (va_A ws sz)
/-- where a method of the systems ends -/
abbrev QI (below : List Frame) (args : Array Value) (s : State) (G : GT) (A : Nat → Prop) (r : Int) (ws' : va_W) : State → Prop := MQ below (va_Qi (fun (q : Int32) (_ : Unit) => q = iI r) (PosC G A ws') A) args s 0 0 A
abbrev QL (below : List Frame) (args : Array Value) (s : State) (G : GT) (A : Nat → Prop) (r : Int) (ws' : va_W) : State → Prop := MQ below (va_Ql (fun (q : Int64) (_ : Unit) => q = lI r) (PosC G A ws') A) args s 0 0 A
abbrev QV (below : List Frame) (args : Array Value) (s : State) (G : GT) (A : Nat → Prop) (ws' : va_W) : State → Prop := MQ below (va_Qv (fun (_ : Unit) => True) (PosC G A ws') A) args s 0 0 A
section JXH
variable {p : Program} {l : Launch} {e : Env} {R : Room} {s : State} {m : MethodId} {args : Array Value} {below : List Frame} {meth : Method} {c : Code} {nL : Nat} {G : GT} {A : Nat → Prop} {kc ks : Nat} {Q : State → Prop} {ws : va_W} {pc : Nat} {lv : List (Nat × Value)} {st : List Value} {cc : ByteArray} {own : String}
theorem jx_get (E : CT p s m args meth c nL G A cc own) {C : String} {T : u_T} {N ci i : Nat} {ty : Nat → FieldType} (F : FC ci C T N ty) (f : Nat) {q0 o : Nat} {fs : List Value} (he : ws[q0]? = some (o, .inr (ci, fs))) (hf : f < N) (hw : Cond.fieldLink own i C (T f).2.1 (T f).2.2.1 ∈ TB) {v : Value} (hv : fs[f]? = some v) (hd : decode cc pc = .ok (.getfield i, 3)) (k : JX p l e R s m args below meth c nL G A kc ks Q ws (pc + 3) lv (v :: st)) : JX p l e R s m args below meth c nL G A kc ks Q ws pc lv (.ref o :: st) :=
  fun hD H locs ls hP hS hl => va_get E.1 E.2.1 E.2.2.2.2.1 F.2.1 E.2.2.2.1 E.2.2.2.2.2.1 hP q0 he F.1 f hf (E.2.2.2.2.1 _ hw) (fun x h => by rw [F.2.2.1 f hf] at h; exact h) hv hd (k hD H locs ls hP hS hl)
theorem jx_put (E : CT p s m args meth c nL G A cc own) {C : String} {T : u_T} {N ci i : Nat} {ty : Nat → FieldType} (F : FC ci C T N ty) (f : Nat) {q0 o : Nat} {fs : List Value} (he : ws[q0]? = some (o, .inr (ci, fs))) (hf : f < N) (hw : Cond.fieldLink own i C (T f).2.1 (T f).2.2.1 ∈ TB) (hfin : (T f).2.2.2 = false) {v : Value} (hn : narrow (ty f) v = v) (hfit : fits (ty f) v = true) (hlen : f < fs.length) {ws' : va_W} (hs : ws.set q0 (o, .inr (ci, fs.set f v)) = ws') (hd : decode cc pc = .ok (.putfield i, 3)) (k : JX p l e R s m args below meth c nL G A kc ks Q ws' (pc + 3) lv st) : JX p l e R s m args below meth c nL G A kc ks Q ws pc lv (v :: .ref o :: st) :=
  fun hD H locs ls hP hS hl => va_put E.1 E.2.1 E.2.2.2.2.1 F.2.1 ty F.2.2.2.1 F.2.2.2.2 E.2.2.2.1 E.2.2.2.2.2.1 hP hD hS q0 he F.1 f hf (E.2.2.2.2.1 _ hw) (fun x h => by rw [F.2.2.1 f hf] at h; exact h) hfin (F.2.2.2.1 f hf) hn hfit hlen hd (fun H1 locs1 hP1 hD1 hS1 => k (hs ▸ hD1) H1 locs1 ls (hs ▸ hP1) hS1 hl)
theorem jx_iald (E : CT p s m args meth c nL G A cc own) {q0 o n : Nat} {f : Nat → Int32} {i v : Int} (he : ws[q0]? = some (o, .inl (G.2.1 0, n, .inl f))) (hv : f i.toNat = iI v) (h0 : 0 ≤ i) (h1 : i < n) (hn : n ≤ 2147483647) (hd : decode cc pc = .ok (.iaload, 1)) (k : JX p l e R s m args below meth c nL G A kc ks Q ws (pc + 1) lv (vI v :: st)) : JX p l e R s m args below meth c nL G A kc ks Q ws pc lv (vI i :: .ref o :: st) :=
  fun hD H locs ls hP hS hl => va_iald E.1 E.2.1 E.2.2.2.2.2.1 hP q0 0 he rfl (iI_in h0 h1 hn) hd (by rw [iI_cl h0 (by omega), hv]; exact k hD H locs ls hP hS hl)
theorem jx_lald (E : CT p s m args meth c nL G A cc own) {q0 o n : Nat} {f : Nat → Int64} {i v : Int} (he : ws[q0]? = some (o, .inl (G.2.1 1, n, .inr (.inl f)))) (hv : f i.toNat = lI v) (h0 : 0 ≤ i) (h1 : i < n) (hn : n ≤ 2147483647) (hd : decode cc pc = .ok (.laload, 1)) (k : JX p l e R s m args below meth c nL G A kc ks Q ws (pc + 1) lv (vL v :: st)) : JX p l e R s m args below meth c nL G A kc ks Q ws pc lv (vI i :: .ref o :: st) :=
  fun hD H locs ls hP hS hl => va_lald E.1 E.2.1 E.2.2.2.2.2.1 hP q0 1 he rfl (iI_in h0 h1 hn) hd (by rw [iI_cl h0 (by omega), hv]; exact k hD H locs ls hP hS hl)
theorem jx_aald (E : CT p s m args meth c nL G A cc own) (t0 : Nat) {q0 o n y : Nat} {C : String} {cA : ClassId} {f : Nat → Option Nat} {i : Int} (he : ws[q0]? = some (o, .inl (cA, n, .inr (.inr (.inr (.inr f)))))) (ht : (tysG G)[t0]? = some (cA, .object C)) (hv : f i.toNat = some y) (h0 : 0 ≤ i) (h1 : i < n) (hn : n ≤ 2147483647) (hd : decode cc pc = .ok (.aaload, 1)) (k : JX p l e R s m args below meth c nL G A kc ks Q ws (pc + 1) lv (.ref y :: st)) : JX p l e R s m args below meth c nL G A kc ks Q ws pc lv (vI i :: .ref o :: st) :=
  fun hD H locs ls hP hS hl => va_aldq E.1 E.2.1 E.2.2.2.2.2.1 hP q0 t0 he ht (iI_in h0 h1 hn) hd (by rw [iI_cl h0 (by omega), hv]; exact k hD H locs ls hP hS hl)
theorem jx_iast (E : CT p s m args meth c nL G A cc own) {q0 o n : Nat} {f : Nat → Int32} {i v : Int} (he : ws[q0]? = some (o, .inl (G.2.1 0, n, .inl f))) {ws' : va_W} (hs : ws.set q0 (o, .inl (G.2.1 0, n, .inl (upd f i.toNat (iI v)))) = ws') (h0 : 0 ≤ i) (h1 : i < n) (hn : n ≤ 2147483647) (hd : decode cc pc = .ok (.iastore, 1)) (k : JX p l e R s m args below meth c nL G A kc ks Q ws' (pc + 1) lv st) : JX p l e R s m args below meth c nL G A kc ks Q ws pc lv (vI v :: vI i :: .ref o :: st) :=
  fun hD H locs ls hP hS hl => va_iast E.1 E.2.1 E.2.2.2.2.2.1 hP hD hS q0 0 he rfl (iI_in h0 h1 hn) hd (by rw [iI_cl h0 (by omega), hs]; exact fun H1 locs1 hP1 hD1 hS1 => k hD1 H1 locs1 ls hP1 hS1 hl)
theorem jx_last (E : CT p s m args meth c nL G A cc own) {q0 o n : Nat} {f : Nat → Int64} {i v : Int} (he : ws[q0]? = some (o, .inl (G.2.1 1, n, .inr (.inl f)))) {ws' : va_W} (hs : ws.set q0 (o, .inl (G.2.1 1, n, .inr (.inl (vp_updL f i.toNat (lI v))))) = ws') (h0 : 0 ≤ i) (h1 : i < n) (hn : n ≤ 2147483647) (hd : decode cc pc = .ok (.lastore, 1)) (k : JX p l e R s m args below meth c nL G A kc ks Q ws' (pc + 1) lv st) : JX p l e R s m args below meth c nL G A kc ks Q ws pc lv (vL v :: vI i :: .ref o :: st) :=
  fun hD H locs ls hP hS hl => va_last E.1 E.2.1 E.2.2.2.2.2.1 hP hD hS q0 1 he rfl (iI_in h0 h1 hn) hd (by rw [iI_cl h0 (by omega), hs]; exact fun H1 locs1 hP1 hD1 hS1 => k hD1 H1 locs1 ls hP1 hS1 hl)
/-- ends -/
theorem jx_iret {r : Int} {ws' : va_W} (E : CT p s m args meth c nL G A cc own) {r' : Int} (hr : meth.sig.returnType = some .int) (hd : decode cc pc = .ok (.ireturn, 1)) (h : r' = r) (hw : ws = ws') : JX p l e R s m args below meth c nL G A 0 0 (QI below args s G A r ws') ws pc lv [vI r'] :=
  fun hD H locs ls hP hS hl => W.iret E.1 E.2.1 hr (fun t ht hW => ⟨⟨iI r', (), rfl, by rw [h], by rw [ht, ← hw]; exact hP, va_K.moved hW.alike E.2.2.2.2.2.1, by rw [← hw]; exact hD⟩, hS.F ht⟩) hS.2.2 hd E.2.2.2.2.2.2.2.2
theorem jx_zret {r : Int} {ws' : va_W} (E : CT p s m args meth c nL G A cc own) {r' : Int} (hr : meth.sig.returnType = some .boolean) (hd : decode cc pc = .ok (.ireturn, 1)) (h : r' = r) (hw : ws = ws') (hb : r' = 0 ∨ r' = 1) : JX p l e R s m args below meth c nL G A 0 0 (QI below args s G A r ws') ws pc lv [vI r'] :=
  fun hD H locs ls hP hS hl => W.zret E.1 E.2.1 hr (by rcases hb with h | h <;> rw [h] <;> rfl) (fun t ht hW => ⟨⟨iI r', (), rfl, by rw [h], by rw [ht, ← hw]; exact hP, va_K.moved hW.alike E.2.2.2.2.2.1, by rw [← hw]; exact hD⟩, hS.F ht⟩) hS.2.2 hd E.2.2.2.2.2.2.2.2
theorem jx_lret {r : Int} {ws' : va_W} (E : CT p s m args meth c nL G A cc own) {r' : Int} (hr : meth.sig.returnType = some .long) (hd : decode cc pc = .ok (.lreturn, 1)) (h : r' = r) (hw : ws = ws') : JX p l e R s m args below meth c nL G A 0 0 (QL below args s G A r ws') ws pc lv [vL r'] :=
  fun hD H locs ls hP hS hl => W.lret E.1 E.2.1 hr (fun t ht hW => ⟨⟨lI r', (), rfl, by rw [h], by rw [ht, ← hw]; exact hP, va_K.moved hW.alike E.2.2.2.2.2.1, by rw [← hw]; exact hD⟩, hS.F ht⟩) hS.2.2 hd E.2.2.2.2.2.2.2.2
theorem jx_vret {ws' : va_W} (E : CT p s m args meth c nL G A cc own) (hr : meth.sig.returnType = none) (hd : decode cc pc = .ok (.return_, 1)) (hw : ws = ws') : JX p l e R s m args below meth c nL G A 0 0 (QV below args s G A ws') ws pc lv [] :=
  fun hD H locs ls hP hS hl => W.vret E.1 E.2.1 hr (fun t ht hW => ⟨⟨(), rfl, trivial, by rw [ht, ← hw]; exact hP, va_K.moved hW.alike E.2.2.2.2.2.1, by rw [← hw]; exact hD⟩, hS.F ht⟩) hS.2.2 hd E.2.2.2.2.2.2.2.2
end JXH
/-- what a call needs of the callee's start -/
theorem pre_blind {G : GT} {ws : va_W} {sz : Nat} {av : List Value} : FrameBlind (va_Pc av (PreC G ws sz)) := fun a U g mk q => by
  obtain ⟨q0, q1, q2, q3, q4, q5⟩ := q
  exact ⟨q0, q1, q2, va_K.moved (u := U) (U := U.calling g mk a) (Vm.Alike.refl U.vm) q3, q4, SW.same (s := U) rfl q5⟩
theorem va_A_self {A0 : Nat → Prop} {ws : va_W} {H0 H : Heap} {locs : List Loc} (hD : va_D A0 ws) (hS : va_S A0 H0 H locs) (hA : ∀ q, H0.size ≤ q → A0 q) : ∀ q, va_A ws H.size q → A0 q := by
  intro q h
  rcases h with ⟨k, e, h⟩ | h
  · exact hD.2 k (q, e) h
  · exact hA q (Nat.le_trans hS.1 h)
theorem pre_of {p : Program} {s : State} {m : MethodId} {args : Array Value} {meth : Method} {c : Code} {nL : Nat} {G : GT} {A : Nat → Prop} {cc : ByteArray} {own : String} (E : CT p s m args meth c nL G A cc own) {ws : va_W} {H : Heap} {locs : List Loc} (hD : va_D A ws) (hP : va_P G.1 vwCl ws H) (hS : va_S A s.heap H locs) {U : State} (hU : U.heap = H) (hW : s.WarmedH U.vm) : PreC G ws H.size U :=
  ⟨by rw [hU], by rw [hU]; exact hP, va_K.moved hW.alike E.2.2.2.2.2.1, hD.weaken (fun _ _ _ _ => trivial), by
    rw [hU]
    exact SW.warm hW ((E.2.2.2.2.2.2.2.1.kept (fun a h1 h2 => hS.2.1 a h1 h2)).narrow (va_A_self hD hS E.2.2.2.2.2.2.1))⟩
theorem va_D_up {A B : Nat → Prop} {ws : va_W} (h : va_D A ws) (hAB : ∀ q, A q → B q) : va_D B ws := ⟨h.1, fun k q hq => hAB _ (h.2 k q hq)⟩
theorem tb_ws {ws : List Cond} {y : MethodName} {bytes : ByteArray} {maxL n : Nat} {ret : Option FieldType} (hm : MB y bytes maxL ret n) : GoodIn TB (Cond.code y bytes maxL ret :: TB) := tb_good (fun w hw => (List.mem_cons.mp hw).elim (fun e => e ▸ hm.2.1) id)
section JXC
variable {p : Program} {l : Launch} {e : Env} {R : Room} {s : State} {m : MethodId} {args : Array Value} {below : List Frame} {meth : Method} {c : Code} {nL : Nat} {G : GT} {A : Nat → Prop} {kc ks : Nat} {Q : State → Prop} {ws : va_W} {pc : Nat} {lv : List (Nat × Value)} {st : List Value} {cc : ByteArray} {own : String}
theorem jx_callB (E : CT p s m args meth c nL G A cc own) {y : MethodName} {bytes : ByteArray} {maxL n d i : Nat} {ret : Option FieldType} (hm : MB y bytes maxL ret n) (hlink : Cond.methodLink own i y ∈ TB) (hRf : d + 1 ≤ R.frames) (hRl : 8 + (maxL + 11) + 40 * d ≤ R.locals) : CallB R s args own i y bytes maxL ret (Cond.code y bytes maxL ret :: TB) (rmL d) 0 0 n :=
  callB_of n E.2.2.2.2.1 (tb_ws (ws := TB) hm) rfl rfl rfl (E.2.2.2.2.1 _ hm.1) (E.2.2.2.2.1 _ hlink) hm.2.2 ⟨hRf, hRl⟩
theorem jx_callVi (E : CT p s m args meth c nL G A cc own) {y : MethodName} {bytes : ByteArray} {maxL n d i : Nat} {ret : Option FieldType} {ws' : va_W} {o : Nat} {r : Int} {st0 : List Value} {q0 ci : Nat} {fs : List Value} {T : u_T} {N : Nat} {ty : Nat → FieldType} (As rest : List Value) (hc : CtI l G y bytes maxL ret d (.ref o :: As) ws r ws') (hm : MB y bytes maxL ret n) (hv : MV y) (hlink : Cond.methodLink own i y ∈ TB) (F : FC ci y.cls T N ty) (he : ws[q0]? = some (o, .inr (ci, fs))) (hd : decode cc pc = .ok (.invokevirtual i, 3)) (k : JX p l e R s m args below meth c nL G A kc ks Q ws' (pc + 3) lv (vI r :: rest)) (hst : st0 = As.reverse ++ .ref o :: rest := by rfl) (hn : As.length = n := by rfl) (hrest : (rest.map fun v => v.category).sum ≤ 8 := by exact Nat.le_of_ble_eq_true rfl) (hRf : d + 1 ≤ R.frames := by decide) (hRl : 8 + (maxL + 11) + 40 * d ≤ R.locals := by decide) (hRc : kc ≤ R.cells := by decide) (hRs : ks ≤ R.slots := by decide) : JX p l e R s m args below meth c nL G A kc ks Q ws pc lv st0 := fun hD H locs ls hP hS hl => by
  subst hst
  have hF := va_A_self hD hS E.2.2.2.2.2.2.1
  refine va_calli (va_runV (As := As) (rest := rest) (C := y.cls) ⟨E.1, E.2.1, E.2.2.1, E.2.2.2.1, E.2.2.2.2.1⟩ (hc H.size) ⟨jx_callB E hm hlink hRf hRl, E.2.2.2.2.1 _ hv.1, E.2.2.2.2.1 _ hv.2⟩ ⟨pre_blind, va_recv E.2.2.2.2.2.1 hP (q := (y.cls, T, N)) F.1 he, fun U hU hW => ⟨rfl, pre_of E hD hP hS hU hW⟩⟩ rfl hn hl.1 rfl (lv_room hrest) hd ⟨hRc, hRs⟩) hS (fun q _ h => hF q h) hF (fun q u t H1 locs1 ht hvm hw hB hz1 hk1 hS1 => ?_)
  subst hw
  exact k (va_D_up hB.2.2 hF) H1 locs1 ls (ht ▸ hB.1) hS1 hl
theorem jx_callVl (E : CT p s m args meth c nL G A cc own) {y : MethodName} {bytes : ByteArray} {maxL n d i : Nat} {ret : Option FieldType} {ws' : va_W} {o : Nat} {r : Int} {st0 : List Value} {q0 ci : Nat} {fs : List Value} {T : u_T} {N : Nat} {ty : Nat → FieldType} (As rest : List Value) (hc : CtL l G y bytes maxL ret d (.ref o :: As) ws r ws') (hm : MB y bytes maxL ret n) (hv : MV y) (hlink : Cond.methodLink own i y ∈ TB) (F : FC ci y.cls T N ty) (he : ws[q0]? = some (o, .inr (ci, fs))) (hd : decode cc pc = .ok (.invokevirtual i, 3)) (k : JX p l e R s m args below meth c nL G A kc ks Q ws' (pc + 3) lv (vL r :: rest)) (hst : st0 = As.reverse ++ .ref o :: rest := by rfl) (hn : As.length = n := by rfl) (hrest : (rest.map fun v => v.category).sum ≤ 8 := by exact Nat.le_of_ble_eq_true rfl) (hRf : d + 1 ≤ R.frames := by decide) (hRl : 8 + (maxL + 11) + 40 * d ≤ R.locals := by decide) (hRc : kc ≤ R.cells := by decide) (hRs : ks ≤ R.slots := by decide) : JX p l e R s m args below meth c nL G A kc ks Q ws pc lv st0 := fun hD H locs ls hP hS hl => by
  subst hst
  have hF := va_A_self hD hS E.2.2.2.2.2.2.1
  refine va_calll (va_runV (As := As) (rest := rest) (C := y.cls) ⟨E.1, E.2.1, E.2.2.1, E.2.2.2.1, E.2.2.2.2.1⟩ (hc H.size) ⟨jx_callB E hm hlink hRf hRl, E.2.2.2.2.1 _ hv.1, E.2.2.2.2.1 _ hv.2⟩ ⟨pre_blind, va_recv E.2.2.2.2.2.1 hP (q := (y.cls, T, N)) F.1 he, fun U hU hW => ⟨rfl, pre_of E hD hP hS hU hW⟩⟩ rfl hn hl.1 rfl (lv_room hrest) hd ⟨hRc, hRs⟩) hS (fun q _ h => hF q h) hF (fun q u t H1 locs1 ht hvm hw hB hz1 hk1 hS1 => ?_)
  subst hw
  exact k (va_D_up hB.2.2 hF) H1 locs1 ls (ht ▸ hB.1) hS1 hl
theorem jx_callVv (E : CT p s m args meth c nL G A cc own) {y : MethodName} {bytes : ByteArray} {maxL n d i : Nat} {ret : Option FieldType} {ws' : va_W} {o : Nat} {st0 : List Value} {q0 ci : Nat} {fs : List Value} {T : u_T} {N : Nat} {ty : Nat → FieldType} (As rest : List Value) (hc : CtV l G y bytes maxL ret d (.ref o :: As) ws ws') (hm : MB y bytes maxL ret n) (hv : MV y) (hlink : Cond.methodLink own i y ∈ TB) (F : FC ci y.cls T N ty) (he : ws[q0]? = some (o, .inr (ci, fs))) (hd : decode cc pc = .ok (.invokevirtual i, 3)) (k : JX p l e R s m args below meth c nL G A kc ks Q ws' (pc + 3) lv rest) (hst : st0 = As.reverse ++ .ref o :: rest := by rfl) (hn : As.length = n := by rfl) (hrest : (rest.map fun v => v.category).sum ≤ 8 := by exact Nat.le_of_ble_eq_true rfl) (hRf : d + 1 ≤ R.frames := by decide) (hRl : 8 + (maxL + 11) + 40 * d ≤ R.locals := by decide) (hRc : kc ≤ R.cells := by decide) (hRs : ks ≤ R.slots := by decide) : JX p l e R s m args below meth c nL G A kc ks Q ws pc lv st0 := fun hD H locs ls hP hS hl => by
  subst hst
  have hF := va_A_self hD hS E.2.2.2.2.2.2.1
  refine va_callv (va_runV (As := As) (rest := rest) (C := y.cls) ⟨E.1, E.2.1, E.2.2.1, E.2.2.2.1, E.2.2.2.2.1⟩ (hc H.size) ⟨jx_callB E hm hlink hRf hRl, E.2.2.2.2.1 _ hv.1, E.2.2.2.2.1 _ hv.2⟩ ⟨pre_blind, va_recv E.2.2.2.2.2.1 hP (q := (y.cls, T, N)) F.1 he, fun U hU hW => ⟨rfl, pre_of E hD hP hS hU hW⟩⟩ rfl hn hl.1 rfl (lv_room hrest) hd ⟨hRc, hRs⟩) hS (fun q _ h => hF q h) hF (fun u t H1 locs1 ht hvm hw hB hz1 hk1 hS1 => ?_)
  exact k (va_D_up hB.2.2 hF) H1 locs1 ls (ht ▸ hB.1) hS1 hl
theorem jx_callSi (E : CT p s m args meth c nL G A cc own) {y : MethodName} {bytes : ByteArray} {maxL n d i : Nat} {ret : Option FieldType} {ws' : va_W} {r : Int} {st0 : List Value} (As rest : List Value) (hc : CtI l G y bytes maxL ret d As ws r ws') (hm : MB y bytes maxL ret n) (hv : Cond.static y ∈ TB) (hlink : Cond.methodLink own i y ∈ TB) (hd : decode cc pc = .ok (.invokestatic i, 3)) (k : JX p l e R s m args below meth c nL G A kc ks Q ws' (pc + 3) lv (vI r :: rest)) (hst : st0 = As.reverse ++ rest := by rfl) (hn : As.length = n := by rfl) (hrest : (rest.map fun v => v.category).sum ≤ 8 := by exact Nat.le_of_ble_eq_true rfl) (hRf : d + 1 ≤ R.frames := by decide) (hRl : 8 + (maxL + 11) + 40 * d ≤ R.locals := by decide) (hRc : kc ≤ R.cells := by decide) (hRs : ks ≤ R.slots := by decide) : JX p l e R s m args below meth c nL G A kc ks Q ws pc lv st0 := fun hD H locs ls hP hS hl => by
  subst hst
  have hF := va_A_self hD hS E.2.2.2.2.2.2.1
  refine va_calli (va_runS (As := As) (rest := rest) ⟨E.1, E.2.1, E.2.2.1, E.2.2.2.1, E.2.2.2.2.1⟩ (hc H.size) ⟨jx_callB E hm hlink hRf hRl, E.2.2.2.2.1 _ hv⟩ ⟨pre_blind, fun U hU hW => ⟨rfl, pre_of E hD hP hS hU hW⟩⟩ rfl hn hl.1 rfl (lv_room hrest) hd ⟨hRc, hRs⟩) hS (fun q _ h => hF q h) hF (fun q u t H1 locs1 ht hvm hw hB hz1 hk1 hS1 => ?_)
  subst hw
  exact k (va_D_up hB.2.2 hF) H1 locs1 ls (ht ▸ hB.1) hS1 hl
theorem jx_callSl (E : CT p s m args meth c nL G A cc own) {y : MethodName} {bytes : ByteArray} {maxL n d i : Nat} {ret : Option FieldType} {ws' : va_W} {r : Int} {st0 : List Value} (As rest : List Value) (hc : CtL l G y bytes maxL ret d As ws r ws') (hm : MB y bytes maxL ret n) (hv : Cond.static y ∈ TB) (hlink : Cond.methodLink own i y ∈ TB) (hd : decode cc pc = .ok (.invokestatic i, 3)) (k : JX p l e R s m args below meth c nL G A kc ks Q ws' (pc + 3) lv (vL r :: rest)) (hst : st0 = As.reverse ++ rest := by rfl) (hn : As.length = n := by rfl) (hrest : (rest.map fun v => v.category).sum ≤ 8 := by exact Nat.le_of_ble_eq_true rfl) (hRf : d + 1 ≤ R.frames := by decide) (hRl : 8 + (maxL + 11) + 40 * d ≤ R.locals := by decide) (hRc : kc ≤ R.cells := by decide) (hRs : ks ≤ R.slots := by decide) : JX p l e R s m args below meth c nL G A kc ks Q ws pc lv st0 := fun hD H locs ls hP hS hl => by
  subst hst
  have hF := va_A_self hD hS E.2.2.2.2.2.2.1
  refine va_calll (va_runS (As := As) (rest := rest) ⟨E.1, E.2.1, E.2.2.1, E.2.2.2.1, E.2.2.2.2.1⟩ (hc H.size) ⟨jx_callB E hm hlink hRf hRl, E.2.2.2.2.1 _ hv⟩ ⟨pre_blind, fun U hU hW => ⟨rfl, pre_of E hD hP hS hU hW⟩⟩ rfl hn hl.1 rfl (lv_room hrest) hd ⟨hRc, hRs⟩) hS (fun q _ h => hF q h) hF (fun q u t H1 locs1 ht hvm hw hB hz1 hk1 hS1 => ?_)
  subst hw
  exact k (va_D_up hB.2.2 hF) H1 locs1 ls (ht ▸ hB.1) hS1 hl
theorem jx_callSv (E : CT p s m args meth c nL G A cc own) {y : MethodName} {bytes : ByteArray} {maxL n d i : Nat} {ret : Option FieldType} {ws' : va_W} {st0 : List Value} (As rest : List Value) (hc : CtV l G y bytes maxL ret d As ws ws') (hm : MB y bytes maxL ret n) (hv : Cond.static y ∈ TB) (hlink : Cond.methodLink own i y ∈ TB) (hd : decode cc pc = .ok (.invokestatic i, 3)) (k : JX p l e R s m args below meth c nL G A kc ks Q ws' (pc + 3) lv rest) (hst : st0 = As.reverse ++ rest := by rfl) (hn : As.length = n := by rfl) (hrest : (rest.map fun v => v.category).sum ≤ 8 := by exact Nat.le_of_ble_eq_true rfl) (hRf : d + 1 ≤ R.frames := by decide) (hRl : 8 + (maxL + 11) + 40 * d ≤ R.locals := by decide) (hRc : kc ≤ R.cells := by decide) (hRs : ks ≤ R.slots := by decide) : JX p l e R s m args below meth c nL G A kc ks Q ws pc lv st0 := fun hD H locs ls hP hS hl => by
  subst hst
  have hF := va_A_self hD hS E.2.2.2.2.2.2.1
  refine va_callv (va_runS (As := As) (rest := rest) ⟨E.1, E.2.1, E.2.2.1, E.2.2.2.1, E.2.2.2.2.1⟩ (hc H.size) ⟨jx_callB E hm hlink hRf hRl, E.2.2.2.2.1 _ hv⟩ ⟨pre_blind, fun U hU hW => ⟨rfl, pre_of E hD hP hS hU hW⟩⟩ rfl hn hl.1 rfl (lv_room hrest) hd ⟨hRc, hRs⟩) hS (fun q _ h => hF q h) hF (fun u t H1 locs1 ht hvm hw hB hz1 hk1 hS1 => ?_)
  exact k (va_D_up hB.2.2 hF) H1 locs1 ls (ht ▸ hB.1) hS1 hl
/-- Math.max, Math.min -/
theorem jx_max (E : CT p s m args meth c nL G A cc own) {x y : Int} {i : Nat} (hlink : Cond.methodLink own i Lib.Math.max.name ∈ TB) (hw : Cond.static Lib.Math.max.name ∈ TB ∧ Cond.initialized "java/lang/Math" ∈ TB ∧ Cond.code Lib.Math.max.name Lib.Math.max.code 2 (some .int) ∈ TB) (hd : decode cc pc = .ok (.invokestatic i, 3)) (k : JX p l e R s m args below meth c nL G A kc ks Q ws (pc + 3) lv (vI (max x y) :: st)) (hx : inR x := by unfold inR; omega) (hy : inR y := by unfold inR; omega) (hRf : 1 ≤ R.frames := by decide) (hRl : (st.map fun v => v.category).sum + 13 ≤ R.locals := by exact Nat.le_of_ble_eq_true rfl) (hRc : kc ≤ R.cells := by decide) (hRs : ks ≤ R.slots := by decide) : JX p l e R s m args below meth c nL G A kc ks Q ws pc lv (vI y :: vI x :: st) := fun hD H locs ls hP hS hl =>
  va_mmax E.1 E.2.1 (by rw [E.2.2.1, hl.1]) E.2.2.2.1 (E.2.2.2.2.1 _ hlink) (E.2.2.2.2.1 _ hw.1) (E.2.2.2.2.1 _ hw.2.1) (E.2.2.2.2.1 _ hw.2.2) hRf hRl hRc hRs hd (by
    have h : (if iI x < iI y then iI y else iI x) = iI (max x y) := by
      simp only [iI_lt hx hy]
      split
      · rw [Int.max_eq_right (by omega)]
      · rw [Int.max_eq_left (by omega)]
    rw [h]
    exact k hD H locs ls hP hS hl)
theorem jx_min (E : CT p s m args meth c nL G A cc own) {x y : Int} {i : Nat} (hlink : Cond.methodLink own i Lib.Math.min.name ∈ TB) (hw : Cond.static Lib.Math.min.name ∈ TB ∧ Cond.initialized "java/lang/Math" ∈ TB ∧ Cond.code Lib.Math.min.name Lib.Math.min.code 2 (some .int) ∈ TB) (hd : decode cc pc = .ok (.invokestatic i, 3)) (k : JX p l e R s m args below meth c nL G A kc ks Q ws (pc + 3) lv (vI (min x y) :: st)) (hx : inR x := by unfold inR; omega) (hy : inR y := by unfold inR; omega) (hRf : 1 ≤ R.frames := by decide) (hRl : (st.map fun v => v.category).sum + 13 ≤ R.locals := by exact Nat.le_of_ble_eq_true rfl) (hRc : kc ≤ R.cells := by decide) (hRs : ks ≤ R.slots := by decide) : JX p l e R s m args below meth c nL G A kc ks Q ws pc lv (vI y :: vI x :: st) := fun hD H locs ls hP hS hl =>
  va_mmin E.1 E.2.1 (by rw [E.2.2.1, hl.1]) E.2.2.2.1 (E.2.2.2.2.1 _ hlink) (E.2.2.2.2.1 _ hw.1) (E.2.2.2.2.1 _ hw.2.1) (E.2.2.2.2.1 _ hw.2.2) hRf hRl hRc hRs hd (by
    have h : (if iI y < iI x then iI y else iI x) = iI (min x y) := by
      simp only [iI_lt hy hx]
      split
      · rw [Int.min_eq_right (by omega)]
      · rw [Int.min_eq_left (by omega)]
    rw [h]
    exact k hD H locs ls hP hS hl)
end JXC
/-- a contract out of a walk of the body -/
theorem CtI.of {l : Launch} {G : GT} {y : MethodName} {bytes : ByteArray} {maxL : Nat} {ret : Option FieldType} {d : Nat} {av : List Value} {ws : va_W} {r : Int} {ws' : va_W} (hy : plainName y.cls = true) (hav : (lg_sl av).length ≤ maxL)
    (h : ∀ (p : Program) (e : Env) (s : State) (m : MethodId) (args : Array Value) (below : List Frame) (meth : Method) (c : Code) (A : Nat → Prop), CT p s m args meth c maxL G A bytes y.cls → meth.sig.returnType = ret → JX p l e (rmL d) s m args below meth c maxL G A 0 0 (QI below args s G A r ws') ws 0 (lv_args 0 av) []) : CtI l G y bytes maxL ret d av ws r ws' := by
  intro sz
  refine Met.ofW (cc := bytes) (maxL := maxL) (ret := ret) hy rfl ?_
  intro p e s m args below meth c s₁ B hml hv
  obtain ⟨rfl, hsz, hP, hK, hD0, hSW⟩ := hv
  subst hsz
  have hD := hD0.self (sz := s.heap.size)
  have hts := atoms_spec (ws := Cond.code y bytes maxL ret :: TB) B.pre
  have hl := lv_entry av (n := maxL) hav
  rw [lg_entry_eq]
  generalize (lg_sl av ++ List.replicate (maxL - (lg_sl av).length) Slot.unset).toArray = ls at hl ⊢
  exact h p e s m _ below meth c (va_A ws s.heap.size) ⟨B.exec, B.bytes, hml, findClass_of_methodNamed B.named, fun w hw => hts w (List.mem_cons_of_mem _ hw), hK, fun q hq => Or.inr hq, hSW, B.notSynchronized⟩ B.returns hD s.heap [] ls hP va_S.rf hl
theorem CtL.of {l : Launch} {G : GT} {y : MethodName} {bytes : ByteArray} {maxL : Nat} {ret : Option FieldType} {d : Nat} {av : List Value} {ws : va_W} {r : Int} {ws' : va_W} (hy : plainName y.cls = true) (hav : (lg_sl av).length ≤ maxL)
    (h : ∀ (p : Program) (e : Env) (s : State) (m : MethodId) (args : Array Value) (below : List Frame) (meth : Method) (c : Code) (A : Nat → Prop), CT p s m args meth c maxL G A bytes y.cls → meth.sig.returnType = ret → JX p l e (rmL d) s m args below meth c maxL G A 0 0 (QL below args s G A r ws') ws 0 (lv_args 0 av) []) : CtL l G y bytes maxL ret d av ws r ws' := by
  intro sz
  refine Met.ofW (cc := bytes) (maxL := maxL) (ret := ret) hy rfl ?_
  intro p e s m args below meth c s₁ B hml hv
  obtain ⟨rfl, hsz, hP, hK, hD0, hSW⟩ := hv
  subst hsz
  have hD := hD0.self (sz := s.heap.size)
  have hts := atoms_spec (ws := Cond.code y bytes maxL ret :: TB) B.pre
  have hl := lv_entry av (n := maxL) hav
  rw [lg_entry_eq]
  generalize (lg_sl av ++ List.replicate (maxL - (lg_sl av).length) Slot.unset).toArray = ls at hl ⊢
  exact h p e s m _ below meth c (va_A ws s.heap.size) ⟨B.exec, B.bytes, hml, findClass_of_methodNamed B.named, fun w hw => hts w (List.mem_cons_of_mem _ hw), hK, fun q hq => Or.inr hq, hSW, B.notSynchronized⟩ B.returns hD s.heap [] ls hP va_S.rf hl
theorem CtV.of {l : Launch} {G : GT} {y : MethodName} {bytes : ByteArray} {maxL : Nat} {ret : Option FieldType} {d : Nat} {av : List Value} {ws : va_W} {ws' : va_W} (hy : plainName y.cls = true) (hav : (lg_sl av).length ≤ maxL)
    (h : ∀ (p : Program) (e : Env) (s : State) (m : MethodId) (args : Array Value) (below : List Frame) (meth : Method) (c : Code) (A : Nat → Prop), CT p s m args meth c maxL G A bytes y.cls → meth.sig.returnType = ret → JX p l e (rmL d) s m args below meth c maxL G A 0 0 (QV below args s G A ws') ws 0 (lv_args 0 av) []) : CtV l G y bytes maxL ret d av ws ws' := by
  intro sz
  refine Met.ofW (cc := bytes) (maxL := maxL) (ret := ret) hy rfl ?_
  intro p e s m args below meth c s₁ B hml hv
  obtain ⟨rfl, hsz, hP, hK, hD0, hSW⟩ := hv
  subst hsz
  have hD := hD0.self (sz := s.heap.size)
  have hts := atoms_spec (ws := Cond.code y bytes maxL ret :: TB) B.pre
  have hl := lv_entry av (n := maxL) hav
  rw [lg_entry_eq]
  generalize (lg_sl av ++ List.replicate (maxL - (lg_sl av).length) Slot.unset).toArray = ls at hl ⊢
  exact h p e s m _ below meth c (va_A ws s.heap.size) ⟨B.exec, B.bytes, hml, findClass_of_methodNamed B.named, fun w hw => hts w (List.mem_cons_of_mem _ hw), hK, fun q hq => Or.inr hq, hSW, B.notSynchronized⟩ B.returns hD s.heap [] ls hP va_S.rf hl
