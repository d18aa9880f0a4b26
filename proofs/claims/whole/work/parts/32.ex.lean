/-! contracts of methods that leave the trial town as it may be -/
def CtE (l : Launch) (G : GT) (y : MethodName) (bytes : ByteArray) (maxL : Nat) (ret : Option FieldType) (d : Nat) (av : List Value) (ws : va_W) (r : Int) (wf : (Int → Int) → va_W) : Prop :=
  ∀ sz : Nat, Met l y (Cond.code y bytes maxL ret :: TB) (rmL d) (va_Pc av (PreC G ws sz)) (va_Qi (fun (q : Int32) (_ : Int → Int) => q = iI r) (fun u t => PosC G (va_A ws sz) (wf u) () t) (va_A ws sz)) 0 0 (va_A ws sz)
abbrev QE (below : List Frame) (args : Array Value) (s : State) (G : GT) (A : Nat → Prop) (r : Int) (wf : (Int → Int) → va_W) : State → Prop := MQ below (va_Qi (fun (q : Int32) (_ : Int → Int) => q = iI r) (fun u t => PosC G A (wf u) () t) A) args s 0 0 A
section JXE
variable {p : Program} {l : Launch} {e : Env} {R : Room} {s : State} {m : MethodId} {args : Array Value} {below : List Frame} {meth : Method} {c : Code} {nL : Nat} {G : GT} {A : Nat → Prop} {kc ks : Nat} {Q : State → Prop} {ws : va_W} {pc : Nat} {lv : List (Nat × Value)} {st : List Value} {cc : ByteArray} {own : String}
theorem jx_iretE {r : Int} {wf : (Int → Int) → va_W} (E : CT p s m args meth c nL G A cc own) {r' : Int} (hr : meth.sig.returnType = some .int) (hd : decode cc pc = .ok (.ireturn, 1)) (h : r' = r) (u : Int → Int) (hw : ws = wf u) : JX p l e R s m args below meth c nL G A 0 0 (QE below args s G A r wf) ws pc lv [vI r'] :=
  fun hD H locs ls hP hS hl => W.iret E.1 E.2.1 hr (fun t ht hW => ⟨⟨iI r', u, rfl, by rw [h], by rw [ht, ← hw]; exact hP, va_K.moved hW.alike E.2.2.2.2.2.1, by rw [← hw]; exact hD⟩, hS.F ht⟩) hS.2.2 hd E.2.2.2.2.2.2.2.2
theorem jx_zretE {r : Int} {wf : (Int → Int) → va_W} (E : CT p s m args meth c nL G A cc own) {r' : Int} (hr : meth.sig.returnType = some .boolean) (hd : decode cc pc = .ok (.ireturn, 1)) (h : r' = r) (u : Int → Int) (hw : ws = wf u) (hb : r' = 0 ∨ r' = 1) : JX p l e R s m args below meth c nL G A 0 0 (QE below args s G A r wf) ws pc lv [vI r'] :=
  fun hD H locs ls hP hS hl => W.zret E.1 E.2.1 hr (by rcases hb with h | h <;> rw [h] <;> rfl) (fun t ht hW => ⟨⟨iI r', u, rfl, by rw [h], by rw [ht, ← hw]; exact hP, va_K.moved hW.alike E.2.2.2.2.2.1, by rw [← hw]; exact hD⟩, hS.F ht⟩) hS.2.2 hd E.2.2.2.2.2.2.2.2
theorem jx_callVe (E : CT p s m args meth c nL G A cc own) {y : MethodName} {bytes : ByteArray} {maxL n d i : Nat} {ret : Option FieldType} {wf : (Int → Int) → va_W} {o : Nat} {r : Int} {st0 : List Value} {q0 ci : Nat} {fs : List Value} {T : u_T} {N : Nat} {ty : Nat → FieldType} (As rest : List Value) (hc : CtE l G y bytes maxL ret d (.ref o :: As) ws r wf) (hm : MB y bytes maxL ret n) (hv : MV y) (hlink : Cond.methodLink own i y ∈ TB) (F : FC ci y.cls T N ty) (he : ws[q0]? = some (o, .inr (ci, fs))) (hd : decode cc pc = .ok (.invokevirtual i, 3)) (k : ∀ u : Int → Int, JX p l e R s m args below meth c nL G A kc ks Q (wf u) (pc + 3) lv (vI r :: rest)) (hst : st0 = As.reverse ++ .ref o :: rest := by rfl) (hn : As.length = n := by rfl) (hrest : (rest.map fun v => v.category).sum ≤ 8 := by exact Nat.le_of_ble_eq_true rfl) (hRf : d + 1 ≤ R.frames := by decide) (hRl : 8 + (maxL + 11) + 40 * d ≤ R.locals := by decide) (hRc : kc ≤ R.cells := by decide) (hRs : ks ≤ R.slots := by decide) : JX p l e R s m args below meth c nL G A kc ks Q ws pc lv st0 := fun hD H locs ls hP hS hl => by
  subst hst
  have hF := va_A_self hD hS E.2.2.2.2.2.2.1
  refine va_calli (va_runV (As := As) (rest := rest) (C := y.cls) ⟨E.1, E.2.1, E.2.2.1, E.2.2.2.1, E.2.2.2.2.1⟩ (hc H.size) ⟨jx_callB E hm hlink hRf hRl, E.2.2.2.2.1 _ hv.1, E.2.2.2.2.1 _ hv.2⟩ ⟨pre_blind, va_recv E.2.2.2.2.2.1 hP (q := (y.cls, T, N)) F.1 he, fun U hU hW => ⟨rfl, pre_of E hD hP hS hU hW⟩⟩ rfl hn hl.1 rfl (lv_room hrest) hd ⟨hRc, hRs⟩) hS (fun q _ h => hF q h) hF (fun q u t H1 locs1 ht hvm hw hB hz1 hk1 hS1 => ?_)
  subst hw
  exact k u (va_D_up hB.2.2 hF) H1 locs1 ls (ht ▸ hB.1) hS1 hl
end JXE
theorem CtE.of {l : Launch} {G : GT} {y : MethodName} {bytes : ByteArray} {maxL : Nat} {ret : Option FieldType} {d : Nat} {av : List Value} {ws : va_W} {r : Int} {wf : (Int → Int) → va_W} (hy : plainName y.cls = true) (hav : (lg_sl av).length ≤ maxL)
    (h : ∀ (p : Program) (e : Env) (s : State) (m : MethodId) (args : Array Value) (below : List Frame) (meth : Method) (c : Code) (A : Nat → Prop), CT p s m args meth c maxL G A bytes y.cls → meth.sig.returnType = ret → JX p l e (rmL d) s m args below meth c maxL G A 0 0 (QE below args s G A r wf) ws 0 (lv_args 0 av) []) : CtE l G y bytes maxL ret d av ws r wf := by
  intro sz
  refine Met.ofW (cc := bytes) (maxL := maxL) (ret := ret) hy rfl ?_
  intro p e s m args below meth c s₁ B hml hv
  obtain ⟨rfl, hsz, hP, hK, hD0, hSW⟩ := hv
  subst hsz
  have hD := hD0.self (sz := s.heap.size)
  have hts := atoms_spec (ws := Cond.code y bytes maxL ret :: TB) B.pre
  have hl := lv_entry av (n := maxL) hav
  rw [lg_entry_eq]
  generalize (lg_sl av ++ List.replicate (maxL - (lg_sl av).length) Slot.unset).toArray = ls at hl ⊢
  exact h p e s m _ below meth c (va_A ws s.heap.size) ⟨B.exec, B.bytes, hml, findClass_of_methodNamed B.named, fun w hw => hts w (List.mem_cons_of_mem _ hw), hK, fun q hq => Or.inr hq, hSW, B.notSynchronized⟩ B.returns hD s.heap [] ls hP va_S.rf hl
