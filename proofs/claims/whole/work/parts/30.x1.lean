/-! 30.x1: laid by the walker out of specX1 -/
theorem CtI.ofF {l : Launch} {G : GT} {y : MethodName} {bytes : ByteArray} {maxL : Nat} {ret : Option FieldType} {d : Nat} {av : List Value} {ws : va_W} {r : Int} {ws' : va_W} (hy : plainFor y = true) (hav : (lg_sl av).length ≤ maxL)
    (h : ∀ (p : Program) (e : Env) (s : State) (m : MethodId) (args : Array Value) (below : List Frame) (meth : Method) (c : Code) (A : Nat → Prop), CT p s m args meth c maxL G A bytes y.cls → meth.sig.returnType = ret → JX p l e (rmL d) s m args below meth c maxL G A 0 0 (QI below args s G A r ws') ws 0 (lv_args 0 av) []) : CtI l G y bytes maxL ret d av ws r ws' := by
  intro sz
  refine MetFree.of_bodySF (code := bytes) (maxLocals := maxL) (ret := ret) hy ?_ ?_
  · intro args s m h hn
    obtain ⟨meth, c, h1, h2, h3, h4, h5, h6, -, -⟩ := Cond.code_spec hn (atoms_spec (ws := Cond.code y bytes maxL ret :: TB) h _ List.mem_cons_self)
    exact ⟨meth, c, h1, h2, h3, h4, h5, h6⟩
  · intro p e s m args below meth c s₁ B hml hv _
    have hh0 : s₁.heap = s.heap := by rw [B.state]; rfl
    obtain ⟨rfl, hsz, hP, hK, hD0, hSW⟩ := hv
    subst hsz
    have hD := hD0.self (sz := s.heap.size)
    have hts := atoms_spec (ws := Cond.code y bytes maxL ret :: TB) B.pre
    have hl := lv_entry av (n := maxL) hav
    have X0 := Stand.of_body B
    rw [lg_entry_eq]
    generalize (lg_sl av ++ List.replicate (maxL - (lg_sl av).length) Slot.unset).toArray = ls at hl ⊢
    obtain ⟨t, a1, o, b1, b2, b3⟩ := h p e s m _ below meth c (va_A ws s.heap.size) ⟨B.exec, B.bytes, hml, findClass_of_methodNamed B.named, fun w hw => hts w (List.mem_cons_of_mem _ hw), hK, fun q hq => Or.inr hq, hSW, B.notSynchronized⟩ B.returns hD s.heap [] ls hP va_S.rf hl s₁ hh0 X0
    exact ⟨t, o, a1, b1, b2, ⟨b3.1, b3.2⟩⟩
theorem xor_nn {x : Int} (h : 0 ≤ x ∧ x ≤ 2147483647) : 0 ≤ (iI x ^^^ iI 8).toInt := by
  have h1 : (iI x ^^^ iI 8).toBitVec.msb = false := by
    show ((iI x).toBitVec ^^^ (iI 8).toBitVec).msb = false
    rw [BitVec.msb_xor]
    have a : (iI x).toBitVec.msb = false := by
      rw [BitVec.msb_eq_toInt]
      have : (iI x).toBitVec.toInt = x := iI_toInt ⟨by omega, h.2⟩
      rw [this]
      simp; omega
    rw [a]
    decide
  rw [BitVec.msb_eq_toInt] at h1
  have : (iI x ^^^ iI 8).toBitVec.toInt = (iI x ^^^ iI 8).toInt := rfl
  rw [this] at h1
  simp at h1
  exact h1
def beginP (t : Int → Int) (i k : Int) : Int → Int := updI (updI (updI (updI (updI t (21 + 5 * i) k) (21 + 5 * i + 1) 10) (21 + 5 * i + 2) 0) (21 + 5 * i + 3) 20) (21 + 5 * i + 4) 0
def oneP (t u : Int → Int) (i : Int) : Int → Int := updI (updI (updI (updI (updI t (21 + 5 * i) (u (21 + 5 * i))) (21 + 5 * i + 1) (u (21 + 5 * i + 1))) (21 + 5 * i + 2) (u (21 + 5 * i + 2))) (21 + 5 * i + 3) (u (21 + 5 * i + 3))) (21 + 5 * i + 4) (u (21 + 5 * i + 4))
set_option maxHeartbeats 4000000 in
theorem c_J9_floorMod_7cf53 (l : Launch) (G : GT) (ws : va_W) {u w : Int} (h1 : 0 ≤ u ∧ u ≤ 1000000) (h2 : w = 8) : CtI l G yJ9_floorMod_7cf53 cJ9_floorMod_7cf53 3 (some .int) 1 [vI u, vI w] ws (u % 8) ws := by
  have hxn := xor_nn (x := u) (by omega)
  rw [← h2] at hxn
  have hxr := iI_inR (iI u ^^^ iI w)
  unfold inR at hxr
  refine CtI.ofF (by decide +kernel) (Nat.le_of_ble_eq_true rfl) ?_
  intro p e s m args below meth c A E hr
  refine jx_lv (lv' := [(0, vI u), (1, vI w)]) [0, 1] rfl ?_
  refine jx_iload_n E 0 dJ9_floorMod_7cf53_0 rfl ?_
  refine jx_iload_n E 1 dJ9_floorMod_7cf53_1 rfl ?_
  refine jx_iremp E dJ9_floorMod_7cf53_2 ?_
  refine jx_istore_n E dJ9_floorMod_7cf53_3 (by decide) [(2, vI (u % w)), (0, vI u), (1, vI w)] rfl ?_
  refine jx_iload_n E 1 dJ9_floorMod_7cf53_4 rfl ?_
  refine jx_iload_n E 2 dJ9_floorMod_7cf53_5 rfl ?_
  refine jx_ixor E (z := (iI u ^^^ iI w).toInt) dJ9_floorMod_7cf53_6 (iI_of _) ?_
  refine jx_if_ge (tgt := 18) E dJ9_floorMod_7cf53_7 (by decide) (fun c1 => ?_) (fun c1 => ?_)
  · skip
    refine jx_iload_n E 0 dJ9_floorMod_7cf53_18 rfl ?_
    exact jx_iret E hr dJ9_floorMod_7cf53_19 (by first | (rw [h2]; done) | (exfalso; omega)) (by first | rfl | (congr 1; done))
  · skip
    refine jx_iload_n E 0 dJ9_floorMod_7cf53_10 rfl ?_
    refine jx_if_eq (tgt := 18) E dJ9_floorMod_7cf53_11 (by decide) (fun c2 => ?_) (fun c2 => ?_)
    · skip
      refine jx_iload_n E 0 dJ9_floorMod_7cf53_18 rfl ?_
      exact jx_iret E hr dJ9_floorMod_7cf53_19 (by first | (rw [h2]; done) | (exfalso; omega)) (by first | rfl | (congr 1; done))
    · skip
      refine jx_iload_n E 0 dJ9_floorMod_7cf53_14 rfl ?_
      refine jx_iload_n E 2 dJ9_floorMod_7cf53_15 rfl ?_
      refine jx_iadd E dJ9_floorMod_7cf53_16 ?_
      exact jx_iret E hr dJ9_floorMod_7cf53_17 (by first | (rw [h2]; done) | (exfalso; omega)) (by first | rfl | (congr 1; done))
set_option maxHeartbeats 4000000 in
theorem c_X0_isStill_0 (l : Launch) (G : GT) (a : Nat → Nat) (x : MS) {i : Int} (h1 : 0 ≤ i ∧ i < 8) (h2 : VF (x 0) i) : CtI l G yX0_isStill cX0_isStill 1 (some .boolean) 1 [.ref (a (5 + 12 * 0 + i.toNat))] (wsX G a x) (if (x 0) (21 + 5 * i + 2) = 1 ∧ (x 0) (21 + 5 * i) ≠ 5 then 1 else 0) (wsX G a x) := by
  obtain ⟨k1, k2, k3, k4, k5⟩ := id h2
  refine CtI.of (by decide) (Nat.le_of_ble_eq_true rfl) ?_
  intro p e s m args below meth c A E hr
  refine jx_lv (lv' := [(0, .ref (a (5 + 12 * 0 + i.toNat)))]) [0] rfl ?_
  refine jx_aload_n E 0 dX0_isStill_0 rfl ?_
  refine jx_get E f_X0 2 (v := vI ((x 0) (21 + 5 * i + 2))) (wx_fou (by decide) (by omega) (by omega)) (by decide) wf_X0_18 rfl dX0_isStill_1 ?_
  refine jx_iconst E dX0_isStill_4 ?_
  refine jx_icmp_ne (tgt := 20) E dX0_isStill_5 (by decide) (fun c1 => ?_) (fun c1 => ?_)
  · skip
    refine jx_iconst E dX0_isStill_20 ?_
    exact jx_zret E hr dX0_isStill_21 (by omega) (by first | rfl | (congr 1; done)) (by first | exact Or.inl rfl | exact Or.inr rfl | omega)
  · skip
    refine jx_aload_n E 0 dX0_isStill_8 rfl ?_
    refine jx_get E f_X0 0 (v := vI ((x 0) (21 + 5 * i))) (wx_fou (by decide) (by omega) (by omega)) (by decide) wf_X0_9 rfl dX0_isStill_9 ?_
    refine jx_iconst E dX0_isStill_12 ?_
    refine jx_icmp_eq (tgt := 20) E dX0_isStill_13 (by decide) (fun c2 => ?_) (fun c2 => ?_)
    · skip
      refine jx_iconst E dX0_isStill_20 ?_
      exact jx_zret E hr dX0_isStill_21 (by omega) (by first | rfl | (congr 1; done)) (by first | exact Or.inl rfl | exact Or.inr rfl | omega)
    · skip
      refine jx_iconst E dX0_isStill_16 ?_
      refine jx_goto (tgt := 21) E dX0_isStill_17 (by decide) ?_
      exact jx_zret E hr dX0_isStill_21 (by omega) (by first | rfl | (congr 1; done)) (by first | exact Or.inl rfl | exact Or.inr rfl | omega)
set_option maxHeartbeats 4000000 in
theorem c_X0_isStill_1 (l : Launch) (G : GT) (a : Nat → Nat) (x : MS) {i : Int} (h1 : 0 ≤ i ∧ i < 8) (h2 : VF (x 1) i) : CtI l G yX0_isStill cX0_isStill 1 (some .boolean) 1 [.ref (a (5 + 12 * 1 + i.toNat))] (wsX G a x) (if (x 1) (21 + 5 * i + 2) = 1 ∧ (x 1) (21 + 5 * i) ≠ 5 then 1 else 0) (wsX G a x) := by
  obtain ⟨k1, k2, k3, k4, k5⟩ := id h2
  refine CtI.of (by decide) (Nat.le_of_ble_eq_true rfl) ?_
  intro p e s m args below meth c A E hr
  refine jx_lv (lv' := [(0, .ref (a (5 + 12 * 1 + i.toNat)))]) [0] rfl ?_
  refine jx_aload_n E 0 dX0_isStill_0 rfl ?_
  refine jx_get E f_X0 2 (v := vI ((x 1) (21 + 5 * i + 2))) (wx_fou (by decide) (by omega) (by omega)) (by decide) wf_X0_18 rfl dX0_isStill_1 ?_
  refine jx_iconst E dX0_isStill_4 ?_
  refine jx_icmp_ne (tgt := 20) E dX0_isStill_5 (by decide) (fun c1 => ?_) (fun c1 => ?_)
  · skip
    refine jx_iconst E dX0_isStill_20 ?_
    exact jx_zret E hr dX0_isStill_21 (by omega) (by first | rfl | (congr 1; done)) (by first | exact Or.inl rfl | exact Or.inr rfl | omega)
  · skip
    refine jx_aload_n E 0 dX0_isStill_8 rfl ?_
    refine jx_get E f_X0 0 (v := vI ((x 1) (21 + 5 * i))) (wx_fou (by decide) (by omega) (by omega)) (by decide) wf_X0_9 rfl dX0_isStill_9 ?_
    refine jx_iconst E dX0_isStill_12 ?_
    refine jx_icmp_eq (tgt := 20) E dX0_isStill_13 (by decide) (fun c2 => ?_) (fun c2 => ?_)
    · skip
      refine jx_iconst E dX0_isStill_20 ?_
      exact jx_zret E hr dX0_isStill_21 (by omega) (by first | rfl | (congr 1; done)) (by first | exact Or.inl rfl | exact Or.inr rfl | omega)
    · skip
      refine jx_iconst E dX0_isStill_16 ?_
      refine jx_goto (tgt := 21) E dX0_isStill_17 (by decide) ?_
      exact jx_zret E hr dX0_isStill_21 (by omega) (by first | rfl | (congr 1; done)) (by first | exact Or.inl rfl | exact Or.inr rfl | omega)
set_option maxHeartbeats 4000000 in
theorem c_X0_usesGoing_0 (l : Launch) (G : GT) (a : Nat → Nat) (x : MS) {i : Int} (h1 : 0 ≤ i ∧ i < 8) (h2 : VF (x 0) i) : CtI l G yX0_usesGoing cX0_usesGoing 1 (some .int) 1 [.ref (a (5 + 12 * 0 + i.toNat))] (wsX G a x) (goP (x 0) i) (wsX G a x) := by
  obtain ⟨k1, k2, k3, k4, k5⟩ := id h2
  refine CtI.of (by decide) (Nat.le_of_ble_eq_true rfl) ?_
  intro p e s m args below meth c A E hr
  refine jx_lv (lv' := [(0, .ref (a (5 + 12 * 0 + i.toNat)))]) [0] rfl ?_
  refine jx_aload_n E 0 dX0_usesGoing_0 rfl ?_
  refine jx_get E f_X0 0 (v := vI ((x 0) (21 + 5 * i))) (wx_fou (by decide) (by omega) (by omega)) (by decide) wf_X0_9 rfl dX0_usesGoing_1 ?_
  rcases (show (x 0) (21 + 5 * i) = 1 ∨ (x 0) (21 + 5 * i) = 2 ∨ (x 0) (21 + 5 * i) = 3 ∨ (x 0) (21 + 5 * i) = 4 ∨ (x 0) (21 + 5 * i) = 5 ∨ ((x 0) (21 + 5 * i) < 1 ∨ 5 < (x 0) (21 + 5 * i)) by omega) with c1 | c1 | c1 | c1 | c1 | c1
  · skip
    refine jx_tabIn (tgt := 40) (off := 36) E 1 dX0_usesGoing_4 c1 (by unfold inR; decide) (by rfl) (by decide) ?_
    refine jx_aload_n E 0 dX0_usesGoing_40 rfl ?_
    refine jx_get E f_X0 1 (v := vI ((x 0) (21 + 5 * i + 1))) (wx_fou (by decide) (by omega) (by omega)) (by decide) wf_X0_15 rfl dX0_usesGoing_41 ?_
    refine jx_iconst E dX0_usesGoing_44 ?_
    refine jx_imul E dX0_usesGoing_45 ?_
    exact jx_iret E hr dX0_usesGoing_46 (by simp only [goP]; omega) (by first | rfl | (congr 1; done))
  · skip
    refine jx_tabIn (tgt := 47) (off := 43) E 2 dX0_usesGoing_4 c1 (by unfold inR; decide) (by rfl) (by decide) ?_
    refine jx_iconst E dX0_usesGoing_47 ?_
    refine jx_aload_n E 0 dX0_usesGoing_48 rfl ?_
    refine jx_get E f_X0 1 (v := vI ((x 0) (21 + 5 * i + 1))) (wx_fou (by decide) (by omega) (by omega)) (by decide) wf_X0_15 rfl dX0_usesGoing_49 ?_
    refine jx_iconst E dX0_usesGoing_52 ?_
    refine jx_idivp E dX0_usesGoing_53 ?_
    refine jx_max E wl_X0_35 mm_max dX0_usesGoing_54 ?_
    exact jx_iret E hr dX0_usesGoing_57 (by simp only [goP]; omega) (by first | rfl | (congr 1; done))
  · skip
    refine jx_tabIn (tgt := 58) (off := 54) E 3 dX0_usesGoing_4 c1 (by unfold inR; decide) (by rfl) (by decide) ?_
    refine jx_iconst E dX0_usesGoing_58 ?_
    exact jx_iret E hr dX0_usesGoing_59 (by simp only [goP]; omega) (by first | rfl | (congr 1; done))
  · skip
    refine jx_tabIn (tgt := 60) (off := 56) E 4 dX0_usesGoing_4 c1 (by unfold inR; decide) (by rfl) (by decide) ?_
    refine jx_iconst E dX0_usesGoing_60 ?_
    refine jx_aload_n E 0 dX0_usesGoing_61 rfl ?_
    refine jx_get E f_X0 1 (v := vI ((x 0) (21 + 5 * i + 1))) (wx_fou (by decide) (by omega) (by omega)) (by decide) wf_X0_15 rfl dX0_usesGoing_62 ?_
    refine jx_iconst E dX0_usesGoing_65 ?_
    refine jx_imul E dX0_usesGoing_66 ?_
    refine jx_aload_n E 0 dX0_usesGoing_67 rfl ?_
    refine jx_get E f_X0 3 (v := vI ((x 0) (21 + 5 * i + 3))) (wx_fou (by decide) (by omega) (by omega)) (by decide) wf_X0_21 rfl dX0_usesGoing_68 ?_
    refine jx_bipush E dX0_usesGoing_71 ?_
    refine jx_idivp E dX0_usesGoing_73 ?_
    refine jx_isub E dX0_usesGoing_74 ?_
    refine jx_max E wl_X0_35 mm_max dX0_usesGoing_75 ?_
    exact jx_iret E hr dX0_usesGoing_78 (by simp only [goP]; omega) (by first | rfl | (congr 1; done))
  · skip
    refine jx_tabIn (tgt := 79) (off := 75) E 5 dX0_usesGoing_4 c1 (by unfold inR; decide) (by rfl) (by decide) ?_
    refine jx_iconst E dX0_usesGoing_79 ?_
    exact jx_iret E hr dX0_usesGoing_80 (by simp only [goP]; omega) (by first | rfl | (congr 1; done))
  · skip
    refine jx_tabOut (tgt := 81) E dX0_usesGoing_4 c1 (by decide) ?_
    refine jx_aload_n E 0 dX0_usesGoing_81 rfl ?_
    refine jx_get E f_X0 1 (v := vI ((x 0) (21 + 5 * i + 1))) (wx_fou (by decide) (by omega) (by omega)) (by decide) wf_X0_15 rfl dX0_usesGoing_82 ?_
    exact jx_iret E hr dX0_usesGoing_85 (by simp only [goP]; omega) (by first | rfl | (congr 1; done))
set_option maxHeartbeats 4000000 in
theorem c_X0_usesGoing_1 (l : Launch) (G : GT) (a : Nat → Nat) (x : MS) {i : Int} (h1 : 0 ≤ i ∧ i < 8) (h2 : VF (x 1) i) : CtI l G yX0_usesGoing cX0_usesGoing 1 (some .int) 1 [.ref (a (5 + 12 * 1 + i.toNat))] (wsX G a x) (goP (x 1) i) (wsX G a x) := by
  obtain ⟨k1, k2, k3, k4, k5⟩ := id h2
  refine CtI.of (by decide) (Nat.le_of_ble_eq_true rfl) ?_
  intro p e s m args below meth c A E hr
  refine jx_lv (lv' := [(0, .ref (a (5 + 12 * 1 + i.toNat)))]) [0] rfl ?_
  refine jx_aload_n E 0 dX0_usesGoing_0 rfl ?_
  refine jx_get E f_X0 0 (v := vI ((x 1) (21 + 5 * i))) (wx_fou (by decide) (by omega) (by omega)) (by decide) wf_X0_9 rfl dX0_usesGoing_1 ?_
  rcases (show (x 1) (21 + 5 * i) = 1 ∨ (x 1) (21 + 5 * i) = 2 ∨ (x 1) (21 + 5 * i) = 3 ∨ (x 1) (21 + 5 * i) = 4 ∨ (x 1) (21 + 5 * i) = 5 ∨ ((x 1) (21 + 5 * i) < 1 ∨ 5 < (x 1) (21 + 5 * i)) by omega) with c1 | c1 | c1 | c1 | c1 | c1
  · skip
    refine jx_tabIn (tgt := 40) (off := 36) E 1 dX0_usesGoing_4 c1 (by unfold inR; decide) (by rfl) (by decide) ?_
    refine jx_aload_n E 0 dX0_usesGoing_40 rfl ?_
    refine jx_get E f_X0 1 (v := vI ((x 1) (21 + 5 * i + 1))) (wx_fou (by decide) (by omega) (by omega)) (by decide) wf_X0_15 rfl dX0_usesGoing_41 ?_
    refine jx_iconst E dX0_usesGoing_44 ?_
    refine jx_imul E dX0_usesGoing_45 ?_
    exact jx_iret E hr dX0_usesGoing_46 (by simp only [goP]; omega) (by first | rfl | (congr 1; done))
  · skip
    refine jx_tabIn (tgt := 47) (off := 43) E 2 dX0_usesGoing_4 c1 (by unfold inR; decide) (by rfl) (by decide) ?_
    refine jx_iconst E dX0_usesGoing_47 ?_
    refine jx_aload_n E 0 dX0_usesGoing_48 rfl ?_
    refine jx_get E f_X0 1 (v := vI ((x 1) (21 + 5 * i + 1))) (wx_fou (by decide) (by omega) (by omega)) (by decide) wf_X0_15 rfl dX0_usesGoing_49 ?_
    refine jx_iconst E dX0_usesGoing_52 ?_
    refine jx_idivp E dX0_usesGoing_53 ?_
    refine jx_max E wl_X0_35 mm_max dX0_usesGoing_54 ?_
    exact jx_iret E hr dX0_usesGoing_57 (by simp only [goP]; omega) (by first | rfl | (congr 1; done))
  · skip
    refine jx_tabIn (tgt := 58) (off := 54) E 3 dX0_usesGoing_4 c1 (by unfold inR; decide) (by rfl) (by decide) ?_
    refine jx_iconst E dX0_usesGoing_58 ?_
    exact jx_iret E hr dX0_usesGoing_59 (by simp only [goP]; omega) (by first | rfl | (congr 1; done))
  · skip
    refine jx_tabIn (tgt := 60) (off := 56) E 4 dX0_usesGoing_4 c1 (by unfold inR; decide) (by rfl) (by decide) ?_
    refine jx_iconst E dX0_usesGoing_60 ?_
    refine jx_aload_n E 0 dX0_usesGoing_61 rfl ?_
    refine jx_get E f_X0 1 (v := vI ((x 1) (21 + 5 * i + 1))) (wx_fou (by decide) (by omega) (by omega)) (by decide) wf_X0_15 rfl dX0_usesGoing_62 ?_
    refine jx_iconst E dX0_usesGoing_65 ?_
    refine jx_imul E dX0_usesGoing_66 ?_
    refine jx_aload_n E 0 dX0_usesGoing_67 rfl ?_
    refine jx_get E f_X0 3 (v := vI ((x 1) (21 + 5 * i + 3))) (wx_fou (by decide) (by omega) (by omega)) (by decide) wf_X0_21 rfl dX0_usesGoing_68 ?_
    refine jx_bipush E dX0_usesGoing_71 ?_
    refine jx_idivp E dX0_usesGoing_73 ?_
    refine jx_isub E dX0_usesGoing_74 ?_
    refine jx_max E wl_X0_35 mm_max dX0_usesGoing_75 ?_
    exact jx_iret E hr dX0_usesGoing_78 (by simp only [goP]; omega) (by first | rfl | (congr 1; done))
  · skip
    refine jx_tabIn (tgt := 79) (off := 75) E 5 dX0_usesGoing_4 c1 (by unfold inR; decide) (by rfl) (by decide) ?_
    refine jx_iconst E dX0_usesGoing_79 ?_
    exact jx_iret E hr dX0_usesGoing_80 (by simp only [goP]; omega) (by first | rfl | (congr 1; done))
  · skip
    refine jx_tabOut (tgt := 81) E dX0_usesGoing_4 c1 (by decide) ?_
    refine jx_aload_n E 0 dX0_usesGoing_81 rfl ?_
    refine jx_get E f_X0 1 (v := vI ((x 1) (21 + 5 * i + 1))) (wx_fou (by decide) (by omega) (by omega)) (by decide) wf_X0_15 rfl dX0_usesGoing_82 ?_
    exact jx_iret E hr dX0_usesGoing_85 (by simp only [goP]; omega) (by first | rfl | (congr 1; done))
set_option maxHeartbeats 4000000 in
theorem c_X0_uses_0 (l : Launch) (G : GT) (a : Nat → Nat) (x : MS) {cd i : Int} (h1 : 0 ≤ i ∧ i < 8) (h2 : VF (x 0) i) (h3 : cd = 0 ∨ cd = 1) : CtI l G yX0_uses cX0_uses 2 (some .int) 2 [.ref (a (5 + 12 * 0 + i.toNat)), vI cd] (wsX G a x) (usesP (x 0) i cd) (wsX G a x) := by
  obtain ⟨k1, k2, k3, k4, k5⟩ := id h2
  have hgo : 0 ≤ goP (x 0) i ∧ goP (x 0) i ≤ 80 := by simp only [goP]; omega
  refine CtI.of (by decide) (Nat.le_of_ble_eq_true rfl) ?_
  intro p e s m args below meth c A E hr
  refine jx_lv (lv' := [(0, .ref (a (5 + 12 * 0 + i.toNat))), (1, vI cd)]) [0, 1] rfl ?_
  refine jx_aload_n E 0 dX0_uses_0 rfl ?_
  refine jx_callVi E [] [] (c_X0_isStill_0 l G a x (i := i) (by omega) (by assumption)) mb_X0_isStill mv_X0_isStill wl_X0_27 f_X0 (wx_fou (by decide) (by omega) (by omega)) dX0_uses_1 ?_
  refine jx_if_eq (tgt := 9) E dX0_uses_4 (by decide) (fun c1 => ?_) (fun c1 => ?_)
  · skip
    refine jx_iload_n E 1 dX0_uses_9 rfl ?_
    refine jx_if_eq (tgt := 22) E dX0_uses_10 (by decide) (fun c2 => ?_) (fun c2 => ?_)
    · skip
      refine jx_aload_n E 0 dX0_uses_22 rfl ?_
      refine jx_callVi E [] [] (c_X0_usesGoing_0 l G a x (i := i) (by omega) (by assumption)) mb_X0_usesGoing mv_X0_usesGoing wl_X0_31 f_X0 (wx_fou (by decide) (by omega) (by omega)) dX0_uses_23 ?_
      exact jx_iret E hr dX0_uses_26 (by simp only [usesP]; omega) (by first | rfl | (congr 1; done))
    · skip
      refine jx_aload_n E 0 dX0_uses_13 rfl ?_
      refine jx_callVi E [] [] (c_X0_usesGoing_0 l G a x (i := i) (by omega) (by assumption)) mb_X0_usesGoing mv_X0_usesGoing wl_X0_31 f_X0 (wx_fou (by decide) (by omega) (by omega)) dX0_uses_14 ?_
      refine jx_iconst E dX0_uses_17 ?_
      refine jx_idivp E dX0_uses_18 ?_
      refine jx_goto (tgt := 26) E dX0_uses_19 (by decide) ?_
      exact jx_iret E hr dX0_uses_26 (by simp only [usesP]; omega) (by first | rfl | (congr 1; done))
  · skip
    refine jx_iconst E dX0_uses_7 ?_
    exact jx_iret E hr dX0_uses_8 (by simp only [usesP]; omega) (by first | rfl | (congr 1; done))
set_option maxHeartbeats 4000000 in
theorem c_X0_uses_1 (l : Launch) (G : GT) (a : Nat → Nat) (x : MS) {cd i : Int} (h1 : 0 ≤ i ∧ i < 8) (h2 : VF (x 1) i) (h3 : cd = 0 ∨ cd = 1) : CtI l G yX0_uses cX0_uses 2 (some .int) 2 [.ref (a (5 + 12 * 1 + i.toNat)), vI cd] (wsX G a x) (usesP (x 1) i cd) (wsX G a x) := by
  obtain ⟨k1, k2, k3, k4, k5⟩ := id h2
  have hgo : 0 ≤ goP (x 1) i ∧ goP (x 1) i ≤ 80 := by simp only [goP]; omega
  refine CtI.of (by decide) (Nat.le_of_ble_eq_true rfl) ?_
  intro p e s m args below meth c A E hr
  refine jx_lv (lv' := [(0, .ref (a (5 + 12 * 1 + i.toNat))), (1, vI cd)]) [0, 1] rfl ?_
  refine jx_aload_n E 0 dX0_uses_0 rfl ?_
  refine jx_callVi E [] [] (c_X0_isStill_1 l G a x (i := i) (by omega) (by assumption)) mb_X0_isStill mv_X0_isStill wl_X0_27 f_X0 (wx_fou (by decide) (by omega) (by omega)) dX0_uses_1 ?_
  refine jx_if_eq (tgt := 9) E dX0_uses_4 (by decide) (fun c1 => ?_) (fun c1 => ?_)
  · skip
    refine jx_iload_n E 1 dX0_uses_9 rfl ?_
    refine jx_if_eq (tgt := 22) E dX0_uses_10 (by decide) (fun c2 => ?_) (fun c2 => ?_)
    · skip
      refine jx_aload_n E 0 dX0_uses_22 rfl ?_
      refine jx_callVi E [] [] (c_X0_usesGoing_1 l G a x (i := i) (by omega) (by assumption)) mb_X0_usesGoing mv_X0_usesGoing wl_X0_31 f_X0 (wx_fou (by decide) (by omega) (by omega)) dX0_uses_23 ?_
      exact jx_iret E hr dX0_uses_26 (by simp only [usesP]; omega) (by first | rfl | (congr 1; done))
    · skip
      refine jx_aload_n E 0 dX0_uses_13 rfl ?_
      refine jx_callVi E [] [] (c_X0_usesGoing_1 l G a x (i := i) (by omega) (by assumption)) mb_X0_usesGoing mv_X0_usesGoing wl_X0_31 f_X0 (wx_fou (by decide) (by omega) (by omega)) dX0_uses_14 ?_
      refine jx_iconst E dX0_uses_17 ?_
      refine jx_idivp E dX0_uses_18 ?_
      refine jx_goto (tgt := 26) E dX0_uses_19 (by decide) ?_
      exact jx_iret E hr dX0_uses_26 (by simp only [usesP]; omega) (by first | rfl | (congr 1; done))
  · skip
    refine jx_iconst E dX0_uses_7 ?_
    exact jx_iret E hr dX0_uses_8 (by simp only [usesP]; omega) (by first | rfl | (congr 1; done))
set_option maxHeartbeats 4000000 in
theorem c_X0_heardGoing_0 (l : Launch) (G : GT) (a : Nat → Nat) (x : MS) {i : Int} (h1 : 0 ≤ i ∧ i < 8) (h2 : VF (x 0) i) : CtI l G yX0_heardGoing cX0_heardGoing 1 (some .int) 1 [.ref (a (5 + 12 * 0 + i.toNat))] (wsX G a x) (soundP (x 0) i) (wsX G a x) := by
  obtain ⟨k1, k2, k3, k4, k5⟩ := id h2
  refine CtI.of (by decide) (Nat.le_of_ble_eq_true rfl) ?_
  intro p e s m args below meth c A E hr
  refine jx_lv (lv' := [(0, .ref (a (5 + 12 * 0 + i.toNat)))]) [0] rfl ?_
  refine jx_aload_n E 0 dX0_heardGoing_0 rfl ?_
  refine jx_get E f_X0 0 (v := vI ((x 0) (21 + 5 * i))) (wx_fou (by decide) (by omega) (by omega)) (by decide) wf_X0_9 rfl dX0_heardGoing_1 ?_
  rcases (show (x 0) (21 + 5 * i) = 1 ∨ (x 0) (21 + 5 * i) = 2 ∨ (x 0) (21 + 5 * i) = 3 ∨ (x 0) (21 + 5 * i) = 4 ∨ (x 0) (21 + 5 * i) = 5 ∨ ((x 0) (21 + 5 * i) < 1 ∨ 5 < (x 0) (21 + 5 * i)) by omega) with c1 | c1 | c1 | c1 | c1 | c1
  · skip
    refine jx_tabIn (tgt := 40) (off := 36) E 1 dX0_heardGoing_4 c1 (by unfold inR; decide) (by rfl) (by decide) ?_
    refine jx_aload_n E 0 dX0_heardGoing_40 rfl ?_
    refine jx_get E f_X0 1 (v := vI ((x 0) (21 + 5 * i + 1))) (wx_fou (by decide) (by omega) (by omega)) (by decide) wf_X0_15 rfl dX0_heardGoing_41 ?_
    refine jx_bipush E dX0_heardGoing_44 ?_
    refine jx_iadd E dX0_heardGoing_46 ?_
    exact jx_iret E hr dX0_heardGoing_47 (by simp only [soundP]; omega) (by first | rfl | (congr 1; done))
  · skip
    refine jx_tabIn (tgt := 48) (off := 44) E 2 dX0_heardGoing_4 c1 (by unfold inR; decide) (by rfl) (by decide) ?_
    refine jx_aload_n E 0 dX0_heardGoing_48 rfl ?_
    refine jx_get E f_X0 1 (v := vI ((x 0) (21 + 5 * i + 1))) (wx_fou (by decide) (by omega) (by omega)) (by decide) wf_X0_15 rfl dX0_heardGoing_49 ?_
    refine jx_iconst E dX0_heardGoing_52 ?_
    refine jx_idivp E dX0_heardGoing_53 ?_
    refine jx_iconst E dX0_heardGoing_54 ?_
    refine jx_iadd E dX0_heardGoing_55 ?_
    exact jx_iret E hr dX0_heardGoing_56 (by simp only [soundP]; omega) (by first | rfl | (congr 1; done))
  · skip
    refine jx_tabIn (tgt := 57) (off := 53) E 3 dX0_heardGoing_4 c1 (by unfold inR; decide) (by rfl) (by decide) ?_
    refine jx_iconst E dX0_heardGoing_57 ?_
    exact jx_iret E hr dX0_heardGoing_58 (by simp only [soundP]; omega) (by first | rfl | (congr 1; done))
  · skip
    refine jx_tabIn (tgt := 59) (off := 55) E 4 dX0_heardGoing_4 c1 (by unfold inR; decide) (by rfl) (by decide) ?_
    refine jx_aload_n E 0 dX0_heardGoing_59 rfl ?_
    refine jx_get E f_X0 1 (v := vI ((x 0) (21 + 5 * i + 1))) (wx_fou (by decide) (by omega) (by omega)) (by decide) wf_X0_15 rfl dX0_heardGoing_60 ?_
    refine jx_bipush E dX0_heardGoing_63 ?_
    refine jx_iadd E dX0_heardGoing_65 ?_
    exact jx_iret E hr dX0_heardGoing_66 (by simp only [soundP]; omega) (by first | rfl | (congr 1; done))
  · skip
    refine jx_tabIn (tgt := 67) (off := 63) E 5 dX0_heardGoing_4 c1 (by unfold inR; decide) (by rfl) (by decide) ?_
    refine jx_iconst E dX0_heardGoing_67 ?_
    refine jx_aload_n E 0 dX0_heardGoing_68 rfl ?_
    refine jx_get E f_X0 3 (v := vI ((x 0) (21 + 5 * i + 3))) (wx_fou (by decide) (by omega) (by omega)) (by decide) wf_X0_21 rfl dX0_heardGoing_69 ?_
    refine jx_bipush E dX0_heardGoing_72 ?_
    refine jx_idivp E dX0_heardGoing_74 ?_
    refine jx_iadd E dX0_heardGoing_75 ?_
    exact jx_iret E hr dX0_heardGoing_76 (by simp only [soundP]; omega) (by first | rfl | (congr 1; done))
  · skip
    refine jx_tabOut (tgt := 77) E dX0_heardGoing_4 c1 (by decide) ?_
    refine jx_aload_n E 0 dX0_heardGoing_77 rfl ?_
    refine jx_get E f_X0 1 (v := vI ((x 0) (21 + 5 * i + 1))) (wx_fou (by decide) (by omega) (by omega)) (by decide) wf_X0_15 rfl dX0_heardGoing_78 ?_
    exact jx_iret E hr dX0_heardGoing_81 (by simp only [soundP]; omega) (by first | rfl | (congr 1; done))
set_option maxHeartbeats 4000000 in
theorem c_X0_heardGoing_1 (l : Launch) (G : GT) (a : Nat → Nat) (x : MS) {i : Int} (h1 : 0 ≤ i ∧ i < 8) (h2 : VF (x 1) i) : CtI l G yX0_heardGoing cX0_heardGoing 1 (some .int) 1 [.ref (a (5 + 12 * 1 + i.toNat))] (wsX G a x) (soundP (x 1) i) (wsX G a x) := by
  obtain ⟨k1, k2, k3, k4, k5⟩ := id h2
  refine CtI.of (by decide) (Nat.le_of_ble_eq_true rfl) ?_
  intro p e s m args below meth c A E hr
  refine jx_lv (lv' := [(0, .ref (a (5 + 12 * 1 + i.toNat)))]) [0] rfl ?_
  refine jx_aload_n E 0 dX0_heardGoing_0 rfl ?_
  refine jx_get E f_X0 0 (v := vI ((x 1) (21 + 5 * i))) (wx_fou (by decide) (by omega) (by omega)) (by decide) wf_X0_9 rfl dX0_heardGoing_1 ?_
  rcases (show (x 1) (21 + 5 * i) = 1 ∨ (x 1) (21 + 5 * i) = 2 ∨ (x 1) (21 + 5 * i) = 3 ∨ (x 1) (21 + 5 * i) = 4 ∨ (x 1) (21 + 5 * i) = 5 ∨ ((x 1) (21 + 5 * i) < 1 ∨ 5 < (x 1) (21 + 5 * i)) by omega) with c1 | c1 | c1 | c1 | c1 | c1
  · skip
    refine jx_tabIn (tgt := 40) (off := 36) E 1 dX0_heardGoing_4 c1 (by unfold inR; decide) (by rfl) (by decide) ?_
    refine jx_aload_n E 0 dX0_heardGoing_40 rfl ?_
    refine jx_get E f_X0 1 (v := vI ((x 1) (21 + 5 * i + 1))) (wx_fou (by decide) (by omega) (by omega)) (by decide) wf_X0_15 rfl dX0_heardGoing_41 ?_
    refine jx_bipush E dX0_heardGoing_44 ?_
    refine jx_iadd E dX0_heardGoing_46 ?_
    exact jx_iret E hr dX0_heardGoing_47 (by simp only [soundP]; omega) (by first | rfl | (congr 1; done))
  · skip
    refine jx_tabIn (tgt := 48) (off := 44) E 2 dX0_heardGoing_4 c1 (by unfold inR; decide) (by rfl) (by decide) ?_
    refine jx_aload_n E 0 dX0_heardGoing_48 rfl ?_
    refine jx_get E f_X0 1 (v := vI ((x 1) (21 + 5 * i + 1))) (wx_fou (by decide) (by omega) (by omega)) (by decide) wf_X0_15 rfl dX0_heardGoing_49 ?_
    refine jx_iconst E dX0_heardGoing_52 ?_
    refine jx_idivp E dX0_heardGoing_53 ?_
    refine jx_iconst E dX0_heardGoing_54 ?_
    refine jx_iadd E dX0_heardGoing_55 ?_
    exact jx_iret E hr dX0_heardGoing_56 (by simp only [soundP]; omega) (by first | rfl | (congr 1; done))
  · skip
    refine jx_tabIn (tgt := 57) (off := 53) E 3 dX0_heardGoing_4 c1 (by unfold inR; decide) (by rfl) (by decide) ?_
    refine jx_iconst E dX0_heardGoing_57 ?_
    exact jx_iret E hr dX0_heardGoing_58 (by simp only [soundP]; omega) (by first | rfl | (congr 1; done))
  · skip
    refine jx_tabIn (tgt := 59) (off := 55) E 4 dX0_heardGoing_4 c1 (by unfold inR; decide) (by rfl) (by decide) ?_
    refine jx_aload_n E 0 dX0_heardGoing_59 rfl ?_
    refine jx_get E f_X0 1 (v := vI ((x 1) (21 + 5 * i + 1))) (wx_fou (by decide) (by omega) (by omega)) (by decide) wf_X0_15 rfl dX0_heardGoing_60 ?_
    refine jx_bipush E dX0_heardGoing_63 ?_
    refine jx_iadd E dX0_heardGoing_65 ?_
    exact jx_iret E hr dX0_heardGoing_66 (by simp only [soundP]; omega) (by first | rfl | (congr 1; done))
  · skip
    refine jx_tabIn (tgt := 67) (off := 63) E 5 dX0_heardGoing_4 c1 (by unfold inR; decide) (by rfl) (by decide) ?_
    refine jx_iconst E dX0_heardGoing_67 ?_
    refine jx_aload_n E 0 dX0_heardGoing_68 rfl ?_
    refine jx_get E f_X0 3 (v := vI ((x 1) (21 + 5 * i + 3))) (wx_fou (by decide) (by omega) (by omega)) (by decide) wf_X0_21 rfl dX0_heardGoing_69 ?_
    refine jx_bipush E dX0_heardGoing_72 ?_
    refine jx_idivp E dX0_heardGoing_74 ?_
    refine jx_iadd E dX0_heardGoing_75 ?_
    exact jx_iret E hr dX0_heardGoing_76 (by simp only [soundP]; omega) (by first | rfl | (congr 1; done))
  · skip
    refine jx_tabOut (tgt := 77) E dX0_heardGoing_4 c1 (by decide) ?_
    refine jx_aload_n E 0 dX0_heardGoing_77 rfl ?_
    refine jx_get E f_X0 1 (v := vI ((x 1) (21 + 5 * i + 1))) (wx_fou (by decide) (by omega) (by omega)) (by decide) wf_X0_15 rfl dX0_heardGoing_78 ?_
    exact jx_iret E hr dX0_heardGoing_81 (by simp only [soundP]; omega) (by first | rfl | (congr 1; done))
set_option maxHeartbeats 4000000 in
theorem c_X0_heard_0 (l : Launch) (G : GT) (a : Nat → Nat) (x : MS) {i : Int} (h1 : 0 ≤ i ∧ i < 8) (h2 : VF (x 0) i) : CtI l G yX0_heard cX0_heard 1 (some .int) 2 [.ref (a (5 + 12 * 0 + i.toNat))] (wsX G a x) (heardP (x 0) i) (wsX G a x) := by
  obtain ⟨k1, k2, k3, k4, k5⟩ := id h2
  refine CtI.of (by decide) (Nat.le_of_ble_eq_true rfl) ?_
  intro p e s m args below meth c A E hr
  refine jx_lv (lv' := [(0, .ref (a (5 + 12 * 0 + i.toNat)))]) [0] rfl ?_
  refine jx_aload_n E 0 dX0_heard_0 rfl ?_
  refine jx_callVi E [] [] (c_X0_isStill_0 l G a x (i := i) (by omega) (by assumption)) mb_X0_isStill mv_X0_isStill wl_X0_27 f_X0 (wx_fou (by decide) (by omega) (by omega)) dX0_heard_1 ?_
  refine jx_if_eq (tgt := 11) E dX0_heard_4 (by decide) (fun c1 => ?_) (fun c1 => ?_)
  · skip
    refine jx_aload_n E 0 dX0_heard_11 rfl ?_
    refine jx_callVi E [] [] (c_X0_heardGoing_0 l G a x (i := i) (by omega) (by assumption)) mb_X0_heardGoing mv_X0_heardGoing wl_X0_41 f_X0 (wx_fou (by decide) (by omega) (by omega)) dX0_heard_12 ?_
    exact jx_iret E hr dX0_heard_15 (by simp only [heardP]; omega) (by first | rfl | (congr 1; done))
  · skip
    refine jx_iconst E dX0_heard_7 ?_
    refine jx_goto (tgt := 15) E dX0_heard_8 (by decide) ?_
    exact jx_iret E hr dX0_heard_15 (by simp only [heardP]; omega) (by first | rfl | (congr 1; done))
set_option maxHeartbeats 4000000 in
theorem c_X0_heard_1 (l : Launch) (G : GT) (a : Nat → Nat) (x : MS) {i : Int} (h1 : 0 ≤ i ∧ i < 8) (h2 : VF (x 1) i) : CtI l G yX0_heard cX0_heard 1 (some .int) 2 [.ref (a (5 + 12 * 1 + i.toNat))] (wsX G a x) (heardP (x 1) i) (wsX G a x) := by
  obtain ⟨k1, k2, k3, k4, k5⟩ := id h2
  refine CtI.of (by decide) (Nat.le_of_ble_eq_true rfl) ?_
  intro p e s m args below meth c A E hr
  refine jx_lv (lv' := [(0, .ref (a (5 + 12 * 1 + i.toNat)))]) [0] rfl ?_
  refine jx_aload_n E 0 dX0_heard_0 rfl ?_
  refine jx_callVi E [] [] (c_X0_isStill_1 l G a x (i := i) (by omega) (by assumption)) mb_X0_isStill mv_X0_isStill wl_X0_27 f_X0 (wx_fou (by decide) (by omega) (by omega)) dX0_heard_1 ?_
  refine jx_if_eq (tgt := 11) E dX0_heard_4 (by decide) (fun c1 => ?_) (fun c1 => ?_)
  · skip
    refine jx_aload_n E 0 dX0_heard_11 rfl ?_
    refine jx_callVi E [] [] (c_X0_heardGoing_1 l G a x (i := i) (by omega) (by assumption)) mb_X0_heardGoing mv_X0_heardGoing wl_X0_41 f_X0 (wx_fou (by decide) (by omega) (by omega)) dX0_heard_12 ?_
    exact jx_iret E hr dX0_heard_15 (by simp only [heardP]; omega) (by first | rfl | (congr 1; done))
  · skip
    refine jx_iconst E dX0_heard_7 ?_
    refine jx_goto (tgt := 15) E dX0_heard_8 (by decide) ?_
    exact jx_iret E hr dX0_heard_15 (by simp only [heardP]; omega) (by first | rfl | (congr 1; done))
set_option maxHeartbeats 4000000 in
theorem c_X0_gains_0 (l : Launch) (G : GT) (a : Nat → Nat) (x : MS) {cd i : Int} (h1 : 0 ≤ i ∧ i < 8) (h2 : VF (x 0) i) (h3 : cd = 0 ∨ cd = 1) : CtI l G yX0_gains cX0_gains 5 (some .int) 1 [.ref (a (5 + 12 * 0 + i.toNat)), vI cd] (wsX G a x) (gainsP (x 0) i cd) (wsX G a x) := by
  obtain ⟨k1, k2, k3, k4, k5⟩ := id h2
  refine CtI.of (by decide) (Nat.le_of_ble_eq_true rfl) ?_
  intro p e s m args below meth c A E hr
  refine jx_lv (lv' := [(0, .ref (a (5 + 12 * 0 + i.toNat))), (1, vI cd)]) [0, 1] rfl ?_
  refine jx_aload_n E 0 dX0_gains_0 rfl ?_
  refine jx_get E f_X0 2 (v := vI ((x 0) (21 + 5 * i + 2))) (wx_fou (by decide) (by omega) (by omega)) (by decide) wf_X0_18 rfl dX0_gains_1 ?_
  refine jx_iconst E dX0_gains_4 ?_
  refine jx_icmp_ne (tgt := 12) E dX0_gains_5 (by decide) (fun c1 => ?_) (fun c1 => ?_)
  · skip
    refine jx_iconst E dX0_gains_12 ?_
    refine jx_istore_n E dX0_gains_13 (by decide) [(2, vI 1), (0, .ref (a (5 + 12 * 0 + i.toNat))), (1, vI cd)] rfl ?_
    refine jx_aload_n E 1 dX0_gains_14 rfl ?_
    refine jx_get E f_X0 1 (v := vI ((x 0) (21 + 5 * i + 1))) (wx_fou (by decide) (by omega) (by omega)) (by decide) wf_X0_15 rfl dX0_gains_15 ?_
    refine jx_bipush E dX0_gains_18 ?_
    refine jx_icmp_le (tgt := 27) E dX0_gains_20 (by decide) (fun c2 => ?_) (fun c2 => ?_)
    · skip
      refine jx_iload_n E 0 dX0_gains_27 rfl ?_
      refine jx_istore_n E dX0_gains_28 (by decide) [(3, vI 1), (2, vI 1), (0, .ref (a (5 + 12 * 0 + i.toNat))), (1, vI cd)] rfl ?_
      refine jx_iload_n E 3 dX0_gains_29 rfl ?_
      refine jx_if_eq (tgt := 37) E dX0_gains_30 (by decide) (fun c3 => ?_) (fun c3 => ?_)
      · skip
        refine jx_iload_n E 1 dX0_gains_37 rfl ?_
        refine jx_iconst E dX0_gains_38 ?_
        refine jx_iadd E dX0_gains_39 ?_
        refine jx_istore E dX0_gains_40 (by decide) [(4, vI (1 + 1)), (3, vI 1), (2, vI 1), (0, .ref (a (5 + 12 * 0 + i.toNat))), (1, vI cd)] rfl ?_
        refine jx_aload_n E 3 dX0_gains_42 rfl ?_
        refine jx_get E f_X0 0 (v := vI ((x 0) (21 + 5 * i))) (wx_fou (by decide) (by omega) (by omega)) (by decide) wf_X0_9 rfl dX0_gains_43 ?_
        rcases (show (x 0) (21 + 5 * i) = 1 ∨ (x 0) (21 + 5 * i) = 2 ∨ (x 0) (21 + 5 * i) = 3 ∨ (x 0) (21 + 5 * i) = 4 ∨ (x 0) (21 + 5 * i) = 5 ∨ ((x 0) (21 + 5 * i) < 1 ∨ 5 < (x 0) (21 + 5 * i)) by omega) with c4 | c4 | c4 | c4 | c4 | c4
        · skip
          refine jx_tabIn (tgt := 80) (off := 34) E 1 dX0_gains_46 c4 (by unfold inR; decide) (by rfl) (by decide) ?_
          refine jx_iload_n E 1 dX0_gains_80 rfl ?_
          exact jx_iret E hr dX0_gains_81 (by simp only [gainsP]; omega) (by first | rfl | (congr 1; done))
        · skip
          refine jx_tabIn (tgt := 82) (off := 36) E 2 dX0_gains_46 c4 (by unfold inR; decide) (by rfl) (by decide) ?_
          refine jx_iconst E dX0_gains_82 ?_
          exact jx_iret E hr dX0_gains_83 (by simp only [gainsP]; omega) (by first | rfl | (congr 1; done))
        · skip
          refine jx_tabIn (tgt := 84) (off := 38) E 3 dX0_gains_46 c4 (by unfold inR; decide) (by rfl) (by decide) ?_
          refine jx_iload E 0 dX0_gains_84 rfl ?_
          exact jx_iret E hr dX0_gains_86 (by simp only [gainsP]; omega) (by first | rfl | (congr 1; done))
        · skip
          refine jx_tabIn (tgt := 87) (off := 41) E 4 dX0_gains_46 c4 (by unfold inR; decide) (by rfl) (by decide) ?_
          refine jx_iload_n E 1 dX0_gains_87 rfl ?_
          refine jx_iconst E dX0_gains_88 ?_
          refine jx_isub E dX0_gains_89 ?_
          exact jx_iret E hr dX0_gains_90 (by simp only [gainsP]; omega) (by first | rfl | (congr 1; done))
        · skip
          refine jx_tabIn (tgt := 91) (off := 45) E 5 dX0_gains_46 c4 (by unfold inR; decide) (by rfl) (by decide) ?_
          refine jx_iconst E dX0_gains_91 ?_
          refine jx_iload E 0 dX0_gains_92 rfl ?_
          refine jx_max E wl_X0_35 mm_max dX0_gains_94 ?_
          exact jx_iret E hr dX0_gains_97 (by simp only [gainsP]; omega) (by first | rfl | (congr 1; done))
        · skip
          refine jx_tabOut (tgt := 98) E dX0_gains_46 c4 (by decide) ?_
          refine jx_iload_n E 2 dX0_gains_98 rfl ?_
          exact jx_iret E hr dX0_gains_99 (by simp only [gainsP]; omega) (by first | rfl | (congr 1; done))
      · skip
        refine jx_iload_n E 1 dX0_gains_33 rfl ?_
        refine jx_goto (tgt := 40) E dX0_gains_34 (by decide) ?_
        refine jx_istore E dX0_gains_40 (by decide) [(4, vI 1), (3, vI 1), (2, vI 1), (0, .ref (a (5 + 12 * 0 + i.toNat))), (1, vI cd)] rfl ?_
        refine jx_aload_n E 3 dX0_gains_42 rfl ?_
        refine jx_get E f_X0 0 (v := vI ((x 0) (21 + 5 * i))) (wx_fou (by decide) (by omega) (by omega)) (by decide) wf_X0_9 rfl dX0_gains_43 ?_
        rcases (show (x 0) (21 + 5 * i) = 1 ∨ (x 0) (21 + 5 * i) = 2 ∨ (x 0) (21 + 5 * i) = 3 ∨ (x 0) (21 + 5 * i) = 4 ∨ (x 0) (21 + 5 * i) = 5 ∨ ((x 0) (21 + 5 * i) < 1 ∨ 5 < (x 0) (21 + 5 * i)) by omega) with c5 | c5 | c5 | c5 | c5 | c5
        · skip
          refine jx_tabIn (tgt := 80) (off := 34) E 1 dX0_gains_46 c5 (by unfold inR; decide) (by rfl) (by decide) ?_
          refine jx_iload_n E 1 dX0_gains_80 rfl ?_
          exact jx_iret E hr dX0_gains_81 (by simp only [gainsP]; omega) (by first | rfl | (congr 1; done))
        · skip
          refine jx_tabIn (tgt := 82) (off := 36) E 2 dX0_gains_46 c5 (by unfold inR; decide) (by rfl) (by decide) ?_
          refine jx_iconst E dX0_gains_82 ?_
          exact jx_iret E hr dX0_gains_83 (by simp only [gainsP]; omega) (by first | rfl | (congr 1; done))
        · skip
          refine jx_tabIn (tgt := 84) (off := 38) E 3 dX0_gains_46 c5 (by unfold inR; decide) (by rfl) (by decide) ?_
          refine jx_iload E 0 dX0_gains_84 rfl ?_
          exact jx_iret E hr dX0_gains_86 (by simp only [gainsP]; omega) (by first | rfl | (congr 1; done))
        · skip
          refine jx_tabIn (tgt := 87) (off := 41) E 4 dX0_gains_46 c5 (by unfold inR; decide) (by rfl) (by decide) ?_
          refine jx_iload_n E 1 dX0_gains_87 rfl ?_
          refine jx_iconst E dX0_gains_88 ?_
          refine jx_isub E dX0_gains_89 ?_
          exact jx_iret E hr dX0_gains_90 (by simp only [gainsP]; omega) (by first | rfl | (congr 1; done))
        · skip
          refine jx_tabIn (tgt := 91) (off := 45) E 5 dX0_gains_46 c5 (by unfold inR; decide) (by rfl) (by decide) ?_
          refine jx_iconst E dX0_gains_91 ?_
          refine jx_iload E 0 dX0_gains_92 rfl ?_
          refine jx_max E wl_X0_35 mm_max dX0_gains_94 ?_
          exact jx_iret E hr dX0_gains_97 (by simp only [gainsP]; omega) (by first | rfl | (congr 1; done))
        · skip
          refine jx_tabOut (tgt := 98) E dX0_gains_46 c5 (by decide) ?_
          refine jx_iload_n E 2 dX0_gains_98 rfl ?_
          exact jx_iret E hr dX0_gains_99 (by simp only [gainsP]; omega) (by first | rfl | (congr 1; done))
    · skip
      refine jx_iconst E dX0_gains_23 ?_
      refine jx_goto (tgt := 28) E dX0_gains_24 (by decide) ?_
      refine jx_istore_n E dX0_gains_28 (by decide) [(3, vI 0), (2, vI 1), (0, .ref (a (5 + 12 * 0 + i.toNat))), (1, vI cd)] rfl ?_
      refine jx_iload_n E 3 dX0_gains_29 rfl ?_
      refine jx_if_eq (tgt := 37) E dX0_gains_30 (by decide) (fun c6 => ?_) (fun c6 => ?_)
      · skip
        refine jx_iload_n E 1 dX0_gains_37 rfl ?_
        refine jx_iconst E dX0_gains_38 ?_
        refine jx_iadd E dX0_gains_39 ?_
        refine jx_istore E dX0_gains_40 (by decide) [(4, vI (1 + 1)), (3, vI 0), (2, vI 1), (0, .ref (a (5 + 12 * 0 + i.toNat))), (1, vI cd)] rfl ?_
        refine jx_aload_n E 3 dX0_gains_42 rfl ?_
        refine jx_get E f_X0 0 (v := vI ((x 0) (21 + 5 * i))) (wx_fou (by decide) (by omega) (by omega)) (by decide) wf_X0_9 rfl dX0_gains_43 ?_
        rcases (show (x 0) (21 + 5 * i) = 1 ∨ (x 0) (21 + 5 * i) = 2 ∨ (x 0) (21 + 5 * i) = 3 ∨ (x 0) (21 + 5 * i) = 4 ∨ (x 0) (21 + 5 * i) = 5 ∨ ((x 0) (21 + 5 * i) < 1 ∨ 5 < (x 0) (21 + 5 * i)) by omega) with c7 | c7 | c7 | c7 | c7 | c7
        · skip
          refine jx_tabIn (tgt := 80) (off := 34) E 1 dX0_gains_46 c7 (by unfold inR; decide) (by rfl) (by decide) ?_
          refine jx_iload_n E 1 dX0_gains_80 rfl ?_
          exact jx_iret E hr dX0_gains_81 (by simp only [gainsP]; omega) (by first | rfl | (congr 1; done))
        · skip
          refine jx_tabIn (tgt := 82) (off := 36) E 2 dX0_gains_46 c7 (by unfold inR; decide) (by rfl) (by decide) ?_
          refine jx_iconst E dX0_gains_82 ?_
          exact jx_iret E hr dX0_gains_83 (by simp only [gainsP]; omega) (by first | rfl | (congr 1; done))
        · skip
          refine jx_tabIn (tgt := 84) (off := 38) E 3 dX0_gains_46 c7 (by unfold inR; decide) (by rfl) (by decide) ?_
          refine jx_iload E 0 dX0_gains_84 rfl ?_
          exact jx_iret E hr dX0_gains_86 (by simp only [gainsP]; omega) (by first | rfl | (congr 1; done))
        · skip
          refine jx_tabIn (tgt := 87) (off := 41) E 4 dX0_gains_46 c7 (by unfold inR; decide) (by rfl) (by decide) ?_
          refine jx_iload_n E 1 dX0_gains_87 rfl ?_
          refine jx_iconst E dX0_gains_88 ?_
          refine jx_isub E dX0_gains_89 ?_
          exact jx_iret E hr dX0_gains_90 (by simp only [gainsP]; omega) (by first | rfl | (congr 1; done))
        · skip
          refine jx_tabIn (tgt := 91) (off := 45) E 5 dX0_gains_46 c7 (by unfold inR; decide) (by rfl) (by decide) ?_
          refine jx_iconst E dX0_gains_91 ?_
          refine jx_iload E 0 dX0_gains_92 rfl ?_
          refine jx_max E wl_X0_35 mm_max dX0_gains_94 ?_
          exact jx_iret E hr dX0_gains_97 (by simp only [gainsP]; omega) (by first | rfl | (congr 1; done))
        · skip
          refine jx_tabOut (tgt := 98) E dX0_gains_46 c7 (by decide) ?_
          refine jx_iload_n E 2 dX0_gains_98 rfl ?_
          exact jx_iret E hr dX0_gains_99 (by simp only [gainsP]; omega) (by first | rfl | (congr 1; done))
      · skip
        refine jx_iload_n E 1 dX0_gains_33 rfl ?_
        refine jx_goto (tgt := 40) E dX0_gains_34 (by decide) ?_
        refine jx_istore E dX0_gains_40 (by decide) [(4, vI 1), (3, vI 0), (2, vI 1), (0, .ref (a (5 + 12 * 0 + i.toNat))), (1, vI cd)] rfl ?_
        refine jx_aload_n E 3 dX0_gains_42 rfl ?_
        refine jx_get E f_X0 0 (v := vI ((x 0) (21 + 5 * i))) (wx_fou (by decide) (by omega) (by omega)) (by decide) wf_X0_9 rfl dX0_gains_43 ?_
        rcases (show (x 0) (21 + 5 * i) = 1 ∨ (x 0) (21 + 5 * i) = 2 ∨ (x 0) (21 + 5 * i) = 3 ∨ (x 0) (21 + 5 * i) = 4 ∨ (x 0) (21 + 5 * i) = 5 ∨ ((x 0) (21 + 5 * i) < 1 ∨ 5 < (x 0) (21 + 5 * i)) by omega) with c8 | c8 | c8 | c8 | c8 | c8
        · skip
          refine jx_tabIn (tgt := 80) (off := 34) E 1 dX0_gains_46 c8 (by unfold inR; decide) (by rfl) (by decide) ?_
          refine jx_iload_n E 1 dX0_gains_80 rfl ?_
          exact jx_iret E hr dX0_gains_81 (by simp only [gainsP]; omega) (by first | rfl | (congr 1; done))
        · skip
          refine jx_tabIn (tgt := 82) (off := 36) E 2 dX0_gains_46 c8 (by unfold inR; decide) (by rfl) (by decide) ?_
          refine jx_iconst E dX0_gains_82 ?_
          exact jx_iret E hr dX0_gains_83 (by simp only [gainsP]; omega) (by first | rfl | (congr 1; done))
        · skip
          refine jx_tabIn (tgt := 84) (off := 38) E 3 dX0_gains_46 c8 (by unfold inR; decide) (by rfl) (by decide) ?_
          refine jx_iload E 0 dX0_gains_84 rfl ?_
          exact jx_iret E hr dX0_gains_86 (by simp only [gainsP]; omega) (by first | rfl | (congr 1; done))
        · skip
          refine jx_tabIn (tgt := 87) (off := 41) E 4 dX0_gains_46 c8 (by unfold inR; decide) (by rfl) (by decide) ?_
          refine jx_iload_n E 1 dX0_gains_87 rfl ?_
          refine jx_iconst E dX0_gains_88 ?_
          refine jx_isub E dX0_gains_89 ?_
          exact jx_iret E hr dX0_gains_90 (by simp only [gainsP]; omega) (by first | rfl | (congr 1; done))
        · skip
          refine jx_tabIn (tgt := 91) (off := 45) E 5 dX0_gains_46 c8 (by unfold inR; decide) (by rfl) (by decide) ?_
          refine jx_iconst E dX0_gains_91 ?_
          refine jx_iload E 0 dX0_gains_92 rfl ?_
          refine jx_max E wl_X0_35 mm_max dX0_gains_94 ?_
          exact jx_iret E hr dX0_gains_97 (by simp only [gainsP]; omega) (by first | rfl | (congr 1; done))
        · skip
          refine jx_tabOut (tgt := 98) E dX0_gains_46 c8 (by decide) ?_
          refine jx_iload_n E 2 dX0_gains_98 rfl ?_
          exact jx_iret E hr dX0_gains_99 (by simp only [gainsP]; omega) (by first | rfl | (congr 1; done))
  · skip
    refine jx_iconst E dX0_gains_8 ?_
    refine jx_goto (tgt := 13) E dX0_gains_9 (by decide) ?_
    refine jx_istore_n E dX0_gains_13 (by decide) [(2, vI (-1)), (0, .ref (a (5 + 12 * 0 + i.toNat))), (1, vI cd)] rfl ?_
    refine jx_aload_n E 1 dX0_gains_14 rfl ?_
    refine jx_get E f_X0 1 (v := vI ((x 0) (21 + 5 * i + 1))) (wx_fou (by decide) (by omega) (by omega)) (by decide) wf_X0_15 rfl dX0_gains_15 ?_
    refine jx_bipush E dX0_gains_18 ?_
    refine jx_icmp_le (tgt := 27) E dX0_gains_20 (by decide) (fun c9 => ?_) (fun c9 => ?_)
    · skip
      refine jx_iload_n E 0 dX0_gains_27 rfl ?_
      refine jx_istore_n E dX0_gains_28 (by decide) [(3, vI (-1)), (2, vI (-1)), (0, .ref (a (5 + 12 * 0 + i.toNat))), (1, vI cd)] rfl ?_
      refine jx_iload_n E 3 dX0_gains_29 rfl ?_
      refine jx_if_eq (tgt := 37) E dX0_gains_30 (by decide) (fun c10 => ?_) (fun c10 => ?_)
      · skip
        refine jx_iload_n E 1 dX0_gains_37 rfl ?_
        refine jx_iconst E dX0_gains_38 ?_
        refine jx_iadd E dX0_gains_39 ?_
        refine jx_istore E dX0_gains_40 (by decide) [(4, vI ((-1) + 1)), (3, vI (-1)), (2, vI (-1)), (0, .ref (a (5 + 12 * 0 + i.toNat))), (1, vI cd)] rfl ?_
        refine jx_aload_n E 3 dX0_gains_42 rfl ?_
        refine jx_get E f_X0 0 (v := vI ((x 0) (21 + 5 * i))) (wx_fou (by decide) (by omega) (by omega)) (by decide) wf_X0_9 rfl dX0_gains_43 ?_
        rcases (show (x 0) (21 + 5 * i) = 1 ∨ (x 0) (21 + 5 * i) = 2 ∨ (x 0) (21 + 5 * i) = 3 ∨ (x 0) (21 + 5 * i) = 4 ∨ (x 0) (21 + 5 * i) = 5 ∨ ((x 0) (21 + 5 * i) < 1 ∨ 5 < (x 0) (21 + 5 * i)) by omega) with c11 | c11 | c11 | c11 | c11 | c11
        · skip
          refine jx_tabIn (tgt := 80) (off := 34) E 1 dX0_gains_46 c11 (by unfold inR; decide) (by rfl) (by decide) ?_
          refine jx_iload_n E 1 dX0_gains_80 rfl ?_
          exact jx_iret E hr dX0_gains_81 (by simp only [gainsP]; omega) (by first | rfl | (congr 1; done))
        · skip
          refine jx_tabIn (tgt := 82) (off := 36) E 2 dX0_gains_46 c11 (by unfold inR; decide) (by rfl) (by decide) ?_
          refine jx_iconst E dX0_gains_82 ?_
          exact jx_iret E hr dX0_gains_83 (by simp only [gainsP]; omega) (by first | rfl | (congr 1; done))
        · skip
          refine jx_tabIn (tgt := 84) (off := 38) E 3 dX0_gains_46 c11 (by unfold inR; decide) (by rfl) (by decide) ?_
          refine jx_iload E 0 dX0_gains_84 rfl ?_
          exact jx_iret E hr dX0_gains_86 (by simp only [gainsP]; omega) (by first | rfl | (congr 1; done))
        · skip
          refine jx_tabIn (tgt := 87) (off := 41) E 4 dX0_gains_46 c11 (by unfold inR; decide) (by rfl) (by decide) ?_
          refine jx_iload_n E 1 dX0_gains_87 rfl ?_
          refine jx_iconst E dX0_gains_88 ?_
          refine jx_isub E dX0_gains_89 ?_
          exact jx_iret E hr dX0_gains_90 (by simp only [gainsP]; omega) (by first | rfl | (congr 1; done))
        · skip
          refine jx_tabIn (tgt := 91) (off := 45) E 5 dX0_gains_46 c11 (by unfold inR; decide) (by rfl) (by decide) ?_
          refine jx_iconst E dX0_gains_91 ?_
          refine jx_iload E 0 dX0_gains_92 rfl ?_
          refine jx_max E wl_X0_35 mm_max dX0_gains_94 ?_
          exact jx_iret E hr dX0_gains_97 (by simp only [gainsP]; omega) (by first | rfl | (congr 1; done))
        · skip
          refine jx_tabOut (tgt := 98) E dX0_gains_46 c11 (by decide) ?_
          refine jx_iload_n E 2 dX0_gains_98 rfl ?_
          exact jx_iret E hr dX0_gains_99 (by simp only [gainsP]; omega) (by first | rfl | (congr 1; done))
      · skip
        refine jx_iload_n E 1 dX0_gains_33 rfl ?_
        refine jx_goto (tgt := 40) E dX0_gains_34 (by decide) ?_
        refine jx_istore E dX0_gains_40 (by decide) [(4, vI (-1)), (3, vI (-1)), (2, vI (-1)), (0, .ref (a (5 + 12 * 0 + i.toNat))), (1, vI cd)] rfl ?_
        refine jx_aload_n E 3 dX0_gains_42 rfl ?_
        refine jx_get E f_X0 0 (v := vI ((x 0) (21 + 5 * i))) (wx_fou (by decide) (by omega) (by omega)) (by decide) wf_X0_9 rfl dX0_gains_43 ?_
        rcases (show (x 0) (21 + 5 * i) = 1 ∨ (x 0) (21 + 5 * i) = 2 ∨ (x 0) (21 + 5 * i) = 3 ∨ (x 0) (21 + 5 * i) = 4 ∨ (x 0) (21 + 5 * i) = 5 ∨ ((x 0) (21 + 5 * i) < 1 ∨ 5 < (x 0) (21 + 5 * i)) by omega) with c12 | c12 | c12 | c12 | c12 | c12
        · skip
          refine jx_tabIn (tgt := 80) (off := 34) E 1 dX0_gains_46 c12 (by unfold inR; decide) (by rfl) (by decide) ?_
          refine jx_iload_n E 1 dX0_gains_80 rfl ?_
          exact jx_iret E hr dX0_gains_81 (by simp only [gainsP]; omega) (by first | rfl | (congr 1; done))
        · skip
          refine jx_tabIn (tgt := 82) (off := 36) E 2 dX0_gains_46 c12 (by unfold inR; decide) (by rfl) (by decide) ?_
          refine jx_iconst E dX0_gains_82 ?_
          exact jx_iret E hr dX0_gains_83 (by simp only [gainsP]; omega) (by first | rfl | (congr 1; done))
        · skip
          refine jx_tabIn (tgt := 84) (off := 38) E 3 dX0_gains_46 c12 (by unfold inR; decide) (by rfl) (by decide) ?_
          refine jx_iload E 0 dX0_gains_84 rfl ?_
          exact jx_iret E hr dX0_gains_86 (by simp only [gainsP]; omega) (by first | rfl | (congr 1; done))
        · skip
          refine jx_tabIn (tgt := 87) (off := 41) E 4 dX0_gains_46 c12 (by unfold inR; decide) (by rfl) (by decide) ?_
          refine jx_iload_n E 1 dX0_gains_87 rfl ?_
          refine jx_iconst E dX0_gains_88 ?_
          refine jx_isub E dX0_gains_89 ?_
          exact jx_iret E hr dX0_gains_90 (by simp only [gainsP]; omega) (by first | rfl | (congr 1; done))
        · skip
          refine jx_tabIn (tgt := 91) (off := 45) E 5 dX0_gains_46 c12 (by unfold inR; decide) (by rfl) (by decide) ?_
          refine jx_iconst E dX0_gains_91 ?_
          refine jx_iload E 0 dX0_gains_92 rfl ?_
          refine jx_max E wl_X0_35 mm_max dX0_gains_94 ?_
          exact jx_iret E hr dX0_gains_97 (by simp only [gainsP]; omega) (by first | rfl | (congr 1; done))
        · skip
          refine jx_tabOut (tgt := 98) E dX0_gains_46 c12 (by decide) ?_
          refine jx_iload_n E 2 dX0_gains_98 rfl ?_
          exact jx_iret E hr dX0_gains_99 (by simp only [gainsP]; omega) (by first | rfl | (congr 1; done))
    · skip
      refine jx_iconst E dX0_gains_23 ?_
      refine jx_goto (tgt := 28) E dX0_gains_24 (by decide) ?_
      refine jx_istore_n E dX0_gains_28 (by decide) [(3, vI 0), (2, vI (-1)), (0, .ref (a (5 + 12 * 0 + i.toNat))), (1, vI cd)] rfl ?_
      refine jx_iload_n E 3 dX0_gains_29 rfl ?_
      refine jx_if_eq (tgt := 37) E dX0_gains_30 (by decide) (fun c13 => ?_) (fun c13 => ?_)
      · skip
        refine jx_iload_n E 1 dX0_gains_37 rfl ?_
        refine jx_iconst E dX0_gains_38 ?_
        refine jx_iadd E dX0_gains_39 ?_
        refine jx_istore E dX0_gains_40 (by decide) [(4, vI ((-1) + 1)), (3, vI 0), (2, vI (-1)), (0, .ref (a (5 + 12 * 0 + i.toNat))), (1, vI cd)] rfl ?_
        refine jx_aload_n E 3 dX0_gains_42 rfl ?_
        refine jx_get E f_X0 0 (v := vI ((x 0) (21 + 5 * i))) (wx_fou (by decide) (by omega) (by omega)) (by decide) wf_X0_9 rfl dX0_gains_43 ?_
        rcases (show (x 0) (21 + 5 * i) = 1 ∨ (x 0) (21 + 5 * i) = 2 ∨ (x 0) (21 + 5 * i) = 3 ∨ (x 0) (21 + 5 * i) = 4 ∨ (x 0) (21 + 5 * i) = 5 ∨ ((x 0) (21 + 5 * i) < 1 ∨ 5 < (x 0) (21 + 5 * i)) by omega) with c14 | c14 | c14 | c14 | c14 | c14
        · skip
          refine jx_tabIn (tgt := 80) (off := 34) E 1 dX0_gains_46 c14 (by unfold inR; decide) (by rfl) (by decide) ?_
          refine jx_iload_n E 1 dX0_gains_80 rfl ?_
          exact jx_iret E hr dX0_gains_81 (by simp only [gainsP]; omega) (by first | rfl | (congr 1; done))
        · skip
          refine jx_tabIn (tgt := 82) (off := 36) E 2 dX0_gains_46 c14 (by unfold inR; decide) (by rfl) (by decide) ?_
          refine jx_iconst E dX0_gains_82 ?_
          exact jx_iret E hr dX0_gains_83 (by simp only [gainsP]; omega) (by first | rfl | (congr 1; done))
        · skip
          refine jx_tabIn (tgt := 84) (off := 38) E 3 dX0_gains_46 c14 (by unfold inR; decide) (by rfl) (by decide) ?_
          refine jx_iload E 0 dX0_gains_84 rfl ?_
          exact jx_iret E hr dX0_gains_86 (by simp only [gainsP]; omega) (by first | rfl | (congr 1; done))
        · skip
          refine jx_tabIn (tgt := 87) (off := 41) E 4 dX0_gains_46 c14 (by unfold inR; decide) (by rfl) (by decide) ?_
          refine jx_iload_n E 1 dX0_gains_87 rfl ?_
          refine jx_iconst E dX0_gains_88 ?_
          refine jx_isub E dX0_gains_89 ?_
          exact jx_iret E hr dX0_gains_90 (by simp only [gainsP]; omega) (by first | rfl | (congr 1; done))
        · skip
          refine jx_tabIn (tgt := 91) (off := 45) E 5 dX0_gains_46 c14 (by unfold inR; decide) (by rfl) (by decide) ?_
          refine jx_iconst E dX0_gains_91 ?_
          refine jx_iload E 0 dX0_gains_92 rfl ?_
          refine jx_max E wl_X0_35 mm_max dX0_gains_94 ?_
          exact jx_iret E hr dX0_gains_97 (by simp only [gainsP]; omega) (by first | rfl | (congr 1; done))
        · skip
          refine jx_tabOut (tgt := 98) E dX0_gains_46 c14 (by decide) ?_
          refine jx_iload_n E 2 dX0_gains_98 rfl ?_
          exact jx_iret E hr dX0_gains_99 (by simp only [gainsP]; omega) (by first | rfl | (congr 1; done))
      · skip
        refine jx_iload_n E 1 dX0_gains_33 rfl ?_
        refine jx_goto (tgt := 40) E dX0_gains_34 (by decide) ?_
        refine jx_istore E dX0_gains_40 (by decide) [(4, vI (-1)), (3, vI 0), (2, vI (-1)), (0, .ref (a (5 + 12 * 0 + i.toNat))), (1, vI cd)] rfl ?_
        refine jx_aload_n E 3 dX0_gains_42 rfl ?_
        refine jx_get E f_X0 0 (v := vI ((x 0) (21 + 5 * i))) (wx_fou (by decide) (by omega) (by omega)) (by decide) wf_X0_9 rfl dX0_gains_43 ?_
        rcases (show (x 0) (21 + 5 * i) = 1 ∨ (x 0) (21 + 5 * i) = 2 ∨ (x 0) (21 + 5 * i) = 3 ∨ (x 0) (21 + 5 * i) = 4 ∨ (x 0) (21 + 5 * i) = 5 ∨ ((x 0) (21 + 5 * i) < 1 ∨ 5 < (x 0) (21 + 5 * i)) by omega) with c15 | c15 | c15 | c15 | c15 | c15
        · skip
          refine jx_tabIn (tgt := 80) (off := 34) E 1 dX0_gains_46 c15 (by unfold inR; decide) (by rfl) (by decide) ?_
          refine jx_iload_n E 1 dX0_gains_80 rfl ?_
          exact jx_iret E hr dX0_gains_81 (by simp only [gainsP]; omega) (by first | rfl | (congr 1; done))
        · skip
          refine jx_tabIn (tgt := 82) (off := 36) E 2 dX0_gains_46 c15 (by unfold inR; decide) (by rfl) (by decide) ?_
          refine jx_iconst E dX0_gains_82 ?_
          exact jx_iret E hr dX0_gains_83 (by simp only [gainsP]; omega) (by first | rfl | (congr 1; done))
        · skip
          refine jx_tabIn (tgt := 84) (off := 38) E 3 dX0_gains_46 c15 (by unfold inR; decide) (by rfl) (by decide) ?_
          refine jx_iload E 0 dX0_gains_84 rfl ?_
          exact jx_iret E hr dX0_gains_86 (by simp only [gainsP]; omega) (by first | rfl | (congr 1; done))
        · skip
          refine jx_tabIn (tgt := 87) (off := 41) E 4 dX0_gains_46 c15 (by unfold inR; decide) (by rfl) (by decide) ?_
          refine jx_iload_n E 1 dX0_gains_87 rfl ?_
          refine jx_iconst E dX0_gains_88 ?_
          refine jx_isub E dX0_gains_89 ?_
          exact jx_iret E hr dX0_gains_90 (by simp only [gainsP]; omega) (by first | rfl | (congr 1; done))
        · skip
          refine jx_tabIn (tgt := 91) (off := 45) E 5 dX0_gains_46 c15 (by unfold inR; decide) (by rfl) (by decide) ?_
          refine jx_iconst E dX0_gains_91 ?_
          refine jx_iload E 0 dX0_gains_92 rfl ?_
          refine jx_max E wl_X0_35 mm_max dX0_gains_94 ?_
          exact jx_iret E hr dX0_gains_97 (by simp only [gainsP]; omega) (by first | rfl | (congr 1; done))
        · skip
          refine jx_tabOut (tgt := 98) E dX0_gains_46 c15 (by decide) ?_
          refine jx_iload_n E 2 dX0_gains_98 rfl ?_
          exact jx_iret E hr dX0_gains_99 (by simp only [gainsP]; omega) (by first | rfl | (congr 1; done))
set_option maxHeartbeats 4000000 in
theorem c_X0_gains_1 (l : Launch) (G : GT) (a : Nat → Nat) (x : MS) {cd i : Int} (h1 : 0 ≤ i ∧ i < 8) (h2 : VF (x 1) i) (h3 : cd = 0 ∨ cd = 1) : CtI l G yX0_gains cX0_gains 5 (some .int) 1 [.ref (a (5 + 12 * 1 + i.toNat)), vI cd] (wsX G a x) (gainsP (x 1) i cd) (wsX G a x) := by
  obtain ⟨k1, k2, k3, k4, k5⟩ := id h2
  refine CtI.of (by decide) (Nat.le_of_ble_eq_true rfl) ?_
  intro p e s m args below meth c A E hr
  refine jx_lv (lv' := [(0, .ref (a (5 + 12 * 1 + i.toNat))), (1, vI cd)]) [0, 1] rfl ?_
  refine jx_aload_n E 0 dX0_gains_0 rfl ?_
  refine jx_get E f_X0 2 (v := vI ((x 1) (21 + 5 * i + 2))) (wx_fou (by decide) (by omega) (by omega)) (by decide) wf_X0_18 rfl dX0_gains_1 ?_
  refine jx_iconst E dX0_gains_4 ?_
  refine jx_icmp_ne (tgt := 12) E dX0_gains_5 (by decide) (fun c1 => ?_) (fun c1 => ?_)
  · skip
    refine jx_iconst E dX0_gains_12 ?_
    refine jx_istore_n E dX0_gains_13 (by decide) [(2, vI 1), (0, .ref (a (5 + 12 * 1 + i.toNat))), (1, vI cd)] rfl ?_
    refine jx_aload_n E 1 dX0_gains_14 rfl ?_
    refine jx_get E f_X0 1 (v := vI ((x 1) (21 + 5 * i + 1))) (wx_fou (by decide) (by omega) (by omega)) (by decide) wf_X0_15 rfl dX0_gains_15 ?_
    refine jx_bipush E dX0_gains_18 ?_
    refine jx_icmp_le (tgt := 27) E dX0_gains_20 (by decide) (fun c2 => ?_) (fun c2 => ?_)
    · skip
      refine jx_iload_n E 0 dX0_gains_27 rfl ?_
      refine jx_istore_n E dX0_gains_28 (by decide) [(3, vI 1), (2, vI 1), (0, .ref (a (5 + 12 * 1 + i.toNat))), (1, vI cd)] rfl ?_
      refine jx_iload_n E 3 dX0_gains_29 rfl ?_
      refine jx_if_eq (tgt := 37) E dX0_gains_30 (by decide) (fun c3 => ?_) (fun c3 => ?_)
      · skip
        refine jx_iload_n E 1 dX0_gains_37 rfl ?_
        refine jx_iconst E dX0_gains_38 ?_
        refine jx_iadd E dX0_gains_39 ?_
        refine jx_istore E dX0_gains_40 (by decide) [(4, vI (1 + 1)), (3, vI 1), (2, vI 1), (0, .ref (a (5 + 12 * 1 + i.toNat))), (1, vI cd)] rfl ?_
        refine jx_aload_n E 3 dX0_gains_42 rfl ?_
        refine jx_get E f_X0 0 (v := vI ((x 1) (21 + 5 * i))) (wx_fou (by decide) (by omega) (by omega)) (by decide) wf_X0_9 rfl dX0_gains_43 ?_
        rcases (show (x 1) (21 + 5 * i) = 1 ∨ (x 1) (21 + 5 * i) = 2 ∨ (x 1) (21 + 5 * i) = 3 ∨ (x 1) (21 + 5 * i) = 4 ∨ (x 1) (21 + 5 * i) = 5 ∨ ((x 1) (21 + 5 * i) < 1 ∨ 5 < (x 1) (21 + 5 * i)) by omega) with c4 | c4 | c4 | c4 | c4 | c4
        · skip
          refine jx_tabIn (tgt := 80) (off := 34) E 1 dX0_gains_46 c4 (by unfold inR; decide) (by rfl) (by decide) ?_
          refine jx_iload_n E 1 dX0_gains_80 rfl ?_
          exact jx_iret E hr dX0_gains_81 (by simp only [gainsP]; omega) (by first | rfl | (congr 1; done))
        · skip
          refine jx_tabIn (tgt := 82) (off := 36) E 2 dX0_gains_46 c4 (by unfold inR; decide) (by rfl) (by decide) ?_
          refine jx_iconst E dX0_gains_82 ?_
          exact jx_iret E hr dX0_gains_83 (by simp only [gainsP]; omega) (by first | rfl | (congr 1; done))
        · skip
          refine jx_tabIn (tgt := 84) (off := 38) E 3 dX0_gains_46 c4 (by unfold inR; decide) (by rfl) (by decide) ?_
          refine jx_iload E 0 dX0_gains_84 rfl ?_
          exact jx_iret E hr dX0_gains_86 (by simp only [gainsP]; omega) (by first | rfl | (congr 1; done))
        · skip
          refine jx_tabIn (tgt := 87) (off := 41) E 4 dX0_gains_46 c4 (by unfold inR; decide) (by rfl) (by decide) ?_
          refine jx_iload_n E 1 dX0_gains_87 rfl ?_
          refine jx_iconst E dX0_gains_88 ?_
          refine jx_isub E dX0_gains_89 ?_
          exact jx_iret E hr dX0_gains_90 (by simp only [gainsP]; omega) (by first | rfl | (congr 1; done))
        · skip
          refine jx_tabIn (tgt := 91) (off := 45) E 5 dX0_gains_46 c4 (by unfold inR; decide) (by rfl) (by decide) ?_
          refine jx_iconst E dX0_gains_91 ?_
          refine jx_iload E 0 dX0_gains_92 rfl ?_
          refine jx_max E wl_X0_35 mm_max dX0_gains_94 ?_
          exact jx_iret E hr dX0_gains_97 (by simp only [gainsP]; omega) (by first | rfl | (congr 1; done))
        · skip
          refine jx_tabOut (tgt := 98) E dX0_gains_46 c4 (by decide) ?_
          refine jx_iload_n E 2 dX0_gains_98 rfl ?_
          exact jx_iret E hr dX0_gains_99 (by simp only [gainsP]; omega) (by first | rfl | (congr 1; done))
      · skip
        refine jx_iload_n E 1 dX0_gains_33 rfl ?_
        refine jx_goto (tgt := 40) E dX0_gains_34 (by decide) ?_
        refine jx_istore E dX0_gains_40 (by decide) [(4, vI 1), (3, vI 1), (2, vI 1), (0, .ref (a (5 + 12 * 1 + i.toNat))), (1, vI cd)] rfl ?_
        refine jx_aload_n E 3 dX0_gains_42 rfl ?_
        refine jx_get E f_X0 0 (v := vI ((x 1) (21 + 5 * i))) (wx_fou (by decide) (by omega) (by omega)) (by decide) wf_X0_9 rfl dX0_gains_43 ?_
        rcases (show (x 1) (21 + 5 * i) = 1 ∨ (x 1) (21 + 5 * i) = 2 ∨ (x 1) (21 + 5 * i) = 3 ∨ (x 1) (21 + 5 * i) = 4 ∨ (x 1) (21 + 5 * i) = 5 ∨ ((x 1) (21 + 5 * i) < 1 ∨ 5 < (x 1) (21 + 5 * i)) by omega) with c5 | c5 | c5 | c5 | c5 | c5
        · skip
          refine jx_tabIn (tgt := 80) (off := 34) E 1 dX0_gains_46 c5 (by unfold inR; decide) (by rfl) (by decide) ?_
          refine jx_iload_n E 1 dX0_gains_80 rfl ?_
          exact jx_iret E hr dX0_gains_81 (by simp only [gainsP]; omega) (by first | rfl | (congr 1; done))
        · skip
          refine jx_tabIn (tgt := 82) (off := 36) E 2 dX0_gains_46 c5 (by unfold inR; decide) (by rfl) (by decide) ?_
          refine jx_iconst E dX0_gains_82 ?_
          exact jx_iret E hr dX0_gains_83 (by simp only [gainsP]; omega) (by first | rfl | (congr 1; done))
        · skip
          refine jx_tabIn (tgt := 84) (off := 38) E 3 dX0_gains_46 c5 (by unfold inR; decide) (by rfl) (by decide) ?_
          refine jx_iload E 0 dX0_gains_84 rfl ?_
          exact jx_iret E hr dX0_gains_86 (by simp only [gainsP]; omega) (by first | rfl | (congr 1; done))
        · skip
          refine jx_tabIn (tgt := 87) (off := 41) E 4 dX0_gains_46 c5 (by unfold inR; decide) (by rfl) (by decide) ?_
          refine jx_iload_n E 1 dX0_gains_87 rfl ?_
          refine jx_iconst E dX0_gains_88 ?_
          refine jx_isub E dX0_gains_89 ?_
          exact jx_iret E hr dX0_gains_90 (by simp only [gainsP]; omega) (by first | rfl | (congr 1; done))
        · skip
          refine jx_tabIn (tgt := 91) (off := 45) E 5 dX0_gains_46 c5 (by unfold inR; decide) (by rfl) (by decide) ?_
          refine jx_iconst E dX0_gains_91 ?_
          refine jx_iload E 0 dX0_gains_92 rfl ?_
          refine jx_max E wl_X0_35 mm_max dX0_gains_94 ?_
          exact jx_iret E hr dX0_gains_97 (by simp only [gainsP]; omega) (by first | rfl | (congr 1; done))
        · skip
          refine jx_tabOut (tgt := 98) E dX0_gains_46 c5 (by decide) ?_
          refine jx_iload_n E 2 dX0_gains_98 rfl ?_
          exact jx_iret E hr dX0_gains_99 (by simp only [gainsP]; omega) (by first | rfl | (congr 1; done))
    · skip
      refine jx_iconst E dX0_gains_23 ?_
      refine jx_goto (tgt := 28) E dX0_gains_24 (by decide) ?_
      refine jx_istore_n E dX0_gains_28 (by decide) [(3, vI 0), (2, vI 1), (0, .ref (a (5 + 12 * 1 + i.toNat))), (1, vI cd)] rfl ?_
      refine jx_iload_n E 3 dX0_gains_29 rfl ?_
      refine jx_if_eq (tgt := 37) E dX0_gains_30 (by decide) (fun c6 => ?_) (fun c6 => ?_)
      · skip
        refine jx_iload_n E 1 dX0_gains_37 rfl ?_
        refine jx_iconst E dX0_gains_38 ?_
        refine jx_iadd E dX0_gains_39 ?_
        refine jx_istore E dX0_gains_40 (by decide) [(4, vI (1 + 1)), (3, vI 0), (2, vI 1), (0, .ref (a (5 + 12 * 1 + i.toNat))), (1, vI cd)] rfl ?_
        refine jx_aload_n E 3 dX0_gains_42 rfl ?_
        refine jx_get E f_X0 0 (v := vI ((x 1) (21 + 5 * i))) (wx_fou (by decide) (by omega) (by omega)) (by decide) wf_X0_9 rfl dX0_gains_43 ?_
        rcases (show (x 1) (21 + 5 * i) = 1 ∨ (x 1) (21 + 5 * i) = 2 ∨ (x 1) (21 + 5 * i) = 3 ∨ (x 1) (21 + 5 * i) = 4 ∨ (x 1) (21 + 5 * i) = 5 ∨ ((x 1) (21 + 5 * i) < 1 ∨ 5 < (x 1) (21 + 5 * i)) by omega) with c7 | c7 | c7 | c7 | c7 | c7
        · skip
          refine jx_tabIn (tgt := 80) (off := 34) E 1 dX0_gains_46 c7 (by unfold inR; decide) (by rfl) (by decide) ?_
          refine jx_iload_n E 1 dX0_gains_80 rfl ?_
          exact jx_iret E hr dX0_gains_81 (by simp only [gainsP]; omega) (by first | rfl | (congr 1; done))
        · skip
          refine jx_tabIn (tgt := 82) (off := 36) E 2 dX0_gains_46 c7 (by unfold inR; decide) (by rfl) (by decide) ?_
          refine jx_iconst E dX0_gains_82 ?_
          exact jx_iret E hr dX0_gains_83 (by simp only [gainsP]; omega) (by first | rfl | (congr 1; done))
        · skip
          refine jx_tabIn (tgt := 84) (off := 38) E 3 dX0_gains_46 c7 (by unfold inR; decide) (by rfl) (by decide) ?_
          refine jx_iload E 0 dX0_gains_84 rfl ?_
          exact jx_iret E hr dX0_gains_86 (by simp only [gainsP]; omega) (by first | rfl | (congr 1; done))
        · skip
          refine jx_tabIn (tgt := 87) (off := 41) E 4 dX0_gains_46 c7 (by unfold inR; decide) (by rfl) (by decide) ?_
          refine jx_iload_n E 1 dX0_gains_87 rfl ?_
          refine jx_iconst E dX0_gains_88 ?_
          refine jx_isub E dX0_gains_89 ?_
          exact jx_iret E hr dX0_gains_90 (by simp only [gainsP]; omega) (by first | rfl | (congr 1; done))
        · skip
          refine jx_tabIn (tgt := 91) (off := 45) E 5 dX0_gains_46 c7 (by unfold inR; decide) (by rfl) (by decide) ?_
          refine jx_iconst E dX0_gains_91 ?_
          refine jx_iload E 0 dX0_gains_92 rfl ?_
          refine jx_max E wl_X0_35 mm_max dX0_gains_94 ?_
          exact jx_iret E hr dX0_gains_97 (by simp only [gainsP]; omega) (by first | rfl | (congr 1; done))
        · skip
          refine jx_tabOut (tgt := 98) E dX0_gains_46 c7 (by decide) ?_
          refine jx_iload_n E 2 dX0_gains_98 rfl ?_
          exact jx_iret E hr dX0_gains_99 (by simp only [gainsP]; omega) (by first | rfl | (congr 1; done))
      · skip
        refine jx_iload_n E 1 dX0_gains_33 rfl ?_
        refine jx_goto (tgt := 40) E dX0_gains_34 (by decide) ?_
        refine jx_istore E dX0_gains_40 (by decide) [(4, vI 1), (3, vI 0), (2, vI 1), (0, .ref (a (5 + 12 * 1 + i.toNat))), (1, vI cd)] rfl ?_
        refine jx_aload_n E 3 dX0_gains_42 rfl ?_
        refine jx_get E f_X0 0 (v := vI ((x 1) (21 + 5 * i))) (wx_fou (by decide) (by omega) (by omega)) (by decide) wf_X0_9 rfl dX0_gains_43 ?_
        rcases (show (x 1) (21 + 5 * i) = 1 ∨ (x 1) (21 + 5 * i) = 2 ∨ (x 1) (21 + 5 * i) = 3 ∨ (x 1) (21 + 5 * i) = 4 ∨ (x 1) (21 + 5 * i) = 5 ∨ ((x 1) (21 + 5 * i) < 1 ∨ 5 < (x 1) (21 + 5 * i)) by omega) with c8 | c8 | c8 | c8 | c8 | c8
        · skip
          refine jx_tabIn (tgt := 80) (off := 34) E 1 dX0_gains_46 c8 (by unfold inR; decide) (by rfl) (by decide) ?_
          refine jx_iload_n E 1 dX0_gains_80 rfl ?_
          exact jx_iret E hr dX0_gains_81 (by simp only [gainsP]; omega) (by first | rfl | (congr 1; done))
        · skip
          refine jx_tabIn (tgt := 82) (off := 36) E 2 dX0_gains_46 c8 (by unfold inR; decide) (by rfl) (by decide) ?_
          refine jx_iconst E dX0_gains_82 ?_
          exact jx_iret E hr dX0_gains_83 (by simp only [gainsP]; omega) (by first | rfl | (congr 1; done))
        · skip
          refine jx_tabIn (tgt := 84) (off := 38) E 3 dX0_gains_46 c8 (by unfold inR; decide) (by rfl) (by decide) ?_
          refine jx_iload E 0 dX0_gains_84 rfl ?_
          exact jx_iret E hr dX0_gains_86 (by simp only [gainsP]; omega) (by first | rfl | (congr 1; done))
        · skip
          refine jx_tabIn (tgt := 87) (off := 41) E 4 dX0_gains_46 c8 (by unfold inR; decide) (by rfl) (by decide) ?_
          refine jx_iload_n E 1 dX0_gains_87 rfl ?_
          refine jx_iconst E dX0_gains_88 ?_
          refine jx_isub E dX0_gains_89 ?_
          exact jx_iret E hr dX0_gains_90 (by simp only [gainsP]; omega) (by first | rfl | (congr 1; done))
        · skip
          refine jx_tabIn (tgt := 91) (off := 45) E 5 dX0_gains_46 c8 (by unfold inR; decide) (by rfl) (by decide) ?_
          refine jx_iconst E dX0_gains_91 ?_
          refine jx_iload E 0 dX0_gains_92 rfl ?_
          refine jx_max E wl_X0_35 mm_max dX0_gains_94 ?_
          exact jx_iret E hr dX0_gains_97 (by simp only [gainsP]; omega) (by first | rfl | (congr 1; done))
        · skip
          refine jx_tabOut (tgt := 98) E dX0_gains_46 c8 (by decide) ?_
          refine jx_iload_n E 2 dX0_gains_98 rfl ?_
          exact jx_iret E hr dX0_gains_99 (by simp only [gainsP]; omega) (by first | rfl | (congr 1; done))
  · skip
    refine jx_iconst E dX0_gains_8 ?_
    refine jx_goto (tgt := 13) E dX0_gains_9 (by decide) ?_
    refine jx_istore_n E dX0_gains_13 (by decide) [(2, vI (-1)), (0, .ref (a (5 + 12 * 1 + i.toNat))), (1, vI cd)] rfl ?_
    refine jx_aload_n E 1 dX0_gains_14 rfl ?_
    refine jx_get E f_X0 1 (v := vI ((x 1) (21 + 5 * i + 1))) (wx_fou (by decide) (by omega) (by omega)) (by decide) wf_X0_15 rfl dX0_gains_15 ?_
    refine jx_bipush E dX0_gains_18 ?_
    refine jx_icmp_le (tgt := 27) E dX0_gains_20 (by decide) (fun c9 => ?_) (fun c9 => ?_)
    · skip
      refine jx_iload_n E 0 dX0_gains_27 rfl ?_
      refine jx_istore_n E dX0_gains_28 (by decide) [(3, vI (-1)), (2, vI (-1)), (0, .ref (a (5 + 12 * 1 + i.toNat))), (1, vI cd)] rfl ?_
      refine jx_iload_n E 3 dX0_gains_29 rfl ?_
      refine jx_if_eq (tgt := 37) E dX0_gains_30 (by decide) (fun c10 => ?_) (fun c10 => ?_)
      · skip
        refine jx_iload_n E 1 dX0_gains_37 rfl ?_
        refine jx_iconst E dX0_gains_38 ?_
        refine jx_iadd E dX0_gains_39 ?_
        refine jx_istore E dX0_gains_40 (by decide) [(4, vI ((-1) + 1)), (3, vI (-1)), (2, vI (-1)), (0, .ref (a (5 + 12 * 1 + i.toNat))), (1, vI cd)] rfl ?_
        refine jx_aload_n E 3 dX0_gains_42 rfl ?_
        refine jx_get E f_X0 0 (v := vI ((x 1) (21 + 5 * i))) (wx_fou (by decide) (by omega) (by omega)) (by decide) wf_X0_9 rfl dX0_gains_43 ?_
        rcases (show (x 1) (21 + 5 * i) = 1 ∨ (x 1) (21 + 5 * i) = 2 ∨ (x 1) (21 + 5 * i) = 3 ∨ (x 1) (21 + 5 * i) = 4 ∨ (x 1) (21 + 5 * i) = 5 ∨ ((x 1) (21 + 5 * i) < 1 ∨ 5 < (x 1) (21 + 5 * i)) by omega) with c11 | c11 | c11 | c11 | c11 | c11
        · skip
          refine jx_tabIn (tgt := 80) (off := 34) E 1 dX0_gains_46 c11 (by unfold inR; decide) (by rfl) (by decide) ?_
          refine jx_iload_n E 1 dX0_gains_80 rfl ?_
          exact jx_iret E hr dX0_gains_81 (by simp only [gainsP]; omega) (by first | rfl | (congr 1; done))
        · skip
          refine jx_tabIn (tgt := 82) (off := 36) E 2 dX0_gains_46 c11 (by unfold inR; decide) (by rfl) (by decide) ?_
          refine jx_iconst E dX0_gains_82 ?_
          exact jx_iret E hr dX0_gains_83 (by simp only [gainsP]; omega) (by first | rfl | (congr 1; done))
        · skip
          refine jx_tabIn (tgt := 84) (off := 38) E 3 dX0_gains_46 c11 (by unfold inR; decide) (by rfl) (by decide) ?_
          refine jx_iload E 0 dX0_gains_84 rfl ?_
          exact jx_iret E hr dX0_gains_86 (by simp only [gainsP]; omega) (by first | rfl | (congr 1; done))
        · skip
          refine jx_tabIn (tgt := 87) (off := 41) E 4 dX0_gains_46 c11 (by unfold inR; decide) (by rfl) (by decide) ?_
          refine jx_iload_n E 1 dX0_gains_87 rfl ?_
          refine jx_iconst E dX0_gains_88 ?_
          refine jx_isub E dX0_gains_89 ?_
          exact jx_iret E hr dX0_gains_90 (by simp only [gainsP]; omega) (by first | rfl | (congr 1; done))
        · skip
          refine jx_tabIn (tgt := 91) (off := 45) E 5 dX0_gains_46 c11 (by unfold inR; decide) (by rfl) (by decide) ?_
          refine jx_iconst E dX0_gains_91 ?_
          refine jx_iload E 0 dX0_gains_92 rfl ?_
          refine jx_max E wl_X0_35 mm_max dX0_gains_94 ?_
          exact jx_iret E hr dX0_gains_97 (by simp only [gainsP]; omega) (by first | rfl | (congr 1; done))
        · skip
          refine jx_tabOut (tgt := 98) E dX0_gains_46 c11 (by decide) ?_
          refine jx_iload_n E 2 dX0_gains_98 rfl ?_
          exact jx_iret E hr dX0_gains_99 (by simp only [gainsP]; omega) (by first | rfl | (congr 1; done))
      · skip
        refine jx_iload_n E 1 dX0_gains_33 rfl ?_
        refine jx_goto (tgt := 40) E dX0_gains_34 (by decide) ?_
        refine jx_istore E dX0_gains_40 (by decide) [(4, vI (-1)), (3, vI (-1)), (2, vI (-1)), (0, .ref (a (5 + 12 * 1 + i.toNat))), (1, vI cd)] rfl ?_
        refine jx_aload_n E 3 dX0_gains_42 rfl ?_
        refine jx_get E f_X0 0 (v := vI ((x 1) (21 + 5 * i))) (wx_fou (by decide) (by omega) (by omega)) (by decide) wf_X0_9 rfl dX0_gains_43 ?_
        rcases (show (x 1) (21 + 5 * i) = 1 ∨ (x 1) (21 + 5 * i) = 2 ∨ (x 1) (21 + 5 * i) = 3 ∨ (x 1) (21 + 5 * i) = 4 ∨ (x 1) (21 + 5 * i) = 5 ∨ ((x 1) (21 + 5 * i) < 1 ∨ 5 < (x 1) (21 + 5 * i)) by omega) with c12 | c12 | c12 | c12 | c12 | c12
        · skip
          refine jx_tabIn (tgt := 80) (off := 34) E 1 dX0_gains_46 c12 (by unfold inR; decide) (by rfl) (by decide) ?_
          refine jx_iload_n E 1 dX0_gains_80 rfl ?_
          exact jx_iret E hr dX0_gains_81 (by simp only [gainsP]; omega) (by first | rfl | (congr 1; done))
        · skip
          refine jx_tabIn (tgt := 82) (off := 36) E 2 dX0_gains_46 c12 (by unfold inR; decide) (by rfl) (by decide) ?_
          refine jx_iconst E dX0_gains_82 ?_
          exact jx_iret E hr dX0_gains_83 (by simp only [gainsP]; omega) (by first | rfl | (congr 1; done))
        · skip
          refine jx_tabIn (tgt := 84) (off := 38) E 3 dX0_gains_46 c12 (by unfold inR; decide) (by rfl) (by decide) ?_
          refine jx_iload E 0 dX0_gains_84 rfl ?_
          exact jx_iret E hr dX0_gains_86 (by simp only [gainsP]; omega) (by first | rfl | (congr 1; done))
        · skip
          refine jx_tabIn (tgt := 87) (off := 41) E 4 dX0_gains_46 c12 (by unfold inR; decide) (by rfl) (by decide) ?_
          refine jx_iload_n E 1 dX0_gains_87 rfl ?_
          refine jx_iconst E dX0_gains_88 ?_
          refine jx_isub E dX0_gains_89 ?_
          exact jx_iret E hr dX0_gains_90 (by simp only [gainsP]; omega) (by first | rfl | (congr 1; done))
        · skip
          refine jx_tabIn (tgt := 91) (off := 45) E 5 dX0_gains_46 c12 (by unfold inR; decide) (by rfl) (by decide) ?_
          refine jx_iconst E dX0_gains_91 ?_
          refine jx_iload E 0 dX0_gains_92 rfl ?_
          refine jx_max E wl_X0_35 mm_max dX0_gains_94 ?_
          exact jx_iret E hr dX0_gains_97 (by simp only [gainsP]; omega) (by first | rfl | (congr 1; done))
        · skip
          refine jx_tabOut (tgt := 98) E dX0_gains_46 c12 (by decide) ?_
          refine jx_iload_n E 2 dX0_gains_98 rfl ?_
          exact jx_iret E hr dX0_gains_99 (by simp only [gainsP]; omega) (by first | rfl | (congr 1; done))
    · skip
      refine jx_iconst E dX0_gains_23 ?_
      refine jx_goto (tgt := 28) E dX0_gains_24 (by decide) ?_
      refine jx_istore_n E dX0_gains_28 (by decide) [(3, vI 0), (2, vI (-1)), (0, .ref (a (5 + 12 * 1 + i.toNat))), (1, vI cd)] rfl ?_
      refine jx_iload_n E 3 dX0_gains_29 rfl ?_
      refine jx_if_eq (tgt := 37) E dX0_gains_30 (by decide) (fun c13 => ?_) (fun c13 => ?_)
      · skip
        refine jx_iload_n E 1 dX0_gains_37 rfl ?_
        refine jx_iconst E dX0_gains_38 ?_
        refine jx_iadd E dX0_gains_39 ?_
        refine jx_istore E dX0_gains_40 (by decide) [(4, vI ((-1) + 1)), (3, vI 0), (2, vI (-1)), (0, .ref (a (5 + 12 * 1 + i.toNat))), (1, vI cd)] rfl ?_
        refine jx_aload_n E 3 dX0_gains_42 rfl ?_
        refine jx_get E f_X0 0 (v := vI ((x 1) (21 + 5 * i))) (wx_fou (by decide) (by omega) (by omega)) (by decide) wf_X0_9 rfl dX0_gains_43 ?_
        rcases (show (x 1) (21 + 5 * i) = 1 ∨ (x 1) (21 + 5 * i) = 2 ∨ (x 1) (21 + 5 * i) = 3 ∨ (x 1) (21 + 5 * i) = 4 ∨ (x 1) (21 + 5 * i) = 5 ∨ ((x 1) (21 + 5 * i) < 1 ∨ 5 < (x 1) (21 + 5 * i)) by omega) with c14 | c14 | c14 | c14 | c14 | c14
        · skip
          refine jx_tabIn (tgt := 80) (off := 34) E 1 dX0_gains_46 c14 (by unfold inR; decide) (by rfl) (by decide) ?_
          refine jx_iload_n E 1 dX0_gains_80 rfl ?_
          exact jx_iret E hr dX0_gains_81 (by simp only [gainsP]; omega) (by first | rfl | (congr 1; done))
        · skip
          refine jx_tabIn (tgt := 82) (off := 36) E 2 dX0_gains_46 c14 (by unfold inR; decide) (by rfl) (by decide) ?_
          refine jx_iconst E dX0_gains_82 ?_
          exact jx_iret E hr dX0_gains_83 (by simp only [gainsP]; omega) (by first | rfl | (congr 1; done))
        · skip
          refine jx_tabIn (tgt := 84) (off := 38) E 3 dX0_gains_46 c14 (by unfold inR; decide) (by rfl) (by decide) ?_
          refine jx_iload E 0 dX0_gains_84 rfl ?_
          exact jx_iret E hr dX0_gains_86 (by simp only [gainsP]; omega) (by first | rfl | (congr 1; done))
        · skip
          refine jx_tabIn (tgt := 87) (off := 41) E 4 dX0_gains_46 c14 (by unfold inR; decide) (by rfl) (by decide) ?_
          refine jx_iload_n E 1 dX0_gains_87 rfl ?_
          refine jx_iconst E dX0_gains_88 ?_
          refine jx_isub E dX0_gains_89 ?_
          exact jx_iret E hr dX0_gains_90 (by simp only [gainsP]; omega) (by first | rfl | (congr 1; done))
        · skip
          refine jx_tabIn (tgt := 91) (off := 45) E 5 dX0_gains_46 c14 (by unfold inR; decide) (by rfl) (by decide) ?_
          refine jx_iconst E dX0_gains_91 ?_
          refine jx_iload E 0 dX0_gains_92 rfl ?_
          refine jx_max E wl_X0_35 mm_max dX0_gains_94 ?_
          exact jx_iret E hr dX0_gains_97 (by simp only [gainsP]; omega) (by first | rfl | (congr 1; done))
        · skip
          refine jx_tabOut (tgt := 98) E dX0_gains_46 c14 (by decide) ?_
          refine jx_iload_n E 2 dX0_gains_98 rfl ?_
          exact jx_iret E hr dX0_gains_99 (by simp only [gainsP]; omega) (by first | rfl | (congr 1; done))
      · skip
        refine jx_iload_n E 1 dX0_gains_33 rfl ?_
        refine jx_goto (tgt := 40) E dX0_gains_34 (by decide) ?_
        refine jx_istore E dX0_gains_40 (by decide) [(4, vI (-1)), (3, vI 0), (2, vI (-1)), (0, .ref (a (5 + 12 * 1 + i.toNat))), (1, vI cd)] rfl ?_
        refine jx_aload_n E 3 dX0_gains_42 rfl ?_
        refine jx_get E f_X0 0 (v := vI ((x 1) (21 + 5 * i))) (wx_fou (by decide) (by omega) (by omega)) (by decide) wf_X0_9 rfl dX0_gains_43 ?_
        rcases (show (x 1) (21 + 5 * i) = 1 ∨ (x 1) (21 + 5 * i) = 2 ∨ (x 1) (21 + 5 * i) = 3 ∨ (x 1) (21 + 5 * i) = 4 ∨ (x 1) (21 + 5 * i) = 5 ∨ ((x 1) (21 + 5 * i) < 1 ∨ 5 < (x 1) (21 + 5 * i)) by omega) with c15 | c15 | c15 | c15 | c15 | c15
        · skip
          refine jx_tabIn (tgt := 80) (off := 34) E 1 dX0_gains_46 c15 (by unfold inR; decide) (by rfl) (by decide) ?_
          refine jx_iload_n E 1 dX0_gains_80 rfl ?_
          exact jx_iret E hr dX0_gains_81 (by simp only [gainsP]; omega) (by first | rfl | (congr 1; done))
        · skip
          refine jx_tabIn (tgt := 82) (off := 36) E 2 dX0_gains_46 c15 (by unfold inR; decide) (by rfl) (by decide) ?_
          refine jx_iconst E dX0_gains_82 ?_
          exact jx_iret E hr dX0_gains_83 (by simp only [gainsP]; omega) (by first | rfl | (congr 1; done))
        · skip
          refine jx_tabIn (tgt := 84) (off := 38) E 3 dX0_gains_46 c15 (by unfold inR; decide) (by rfl) (by decide) ?_
          refine jx_iload E 0 dX0_gains_84 rfl ?_
          exact jx_iret E hr dX0_gains_86 (by simp only [gainsP]; omega) (by first | rfl | (congr 1; done))
        · skip
          refine jx_tabIn (tgt := 87) (off := 41) E 4 dX0_gains_46 c15 (by unfold inR; decide) (by rfl) (by decide) ?_
          refine jx_iload_n E 1 dX0_gains_87 rfl ?_
          refine jx_iconst E dX0_gains_88 ?_
          refine jx_isub E dX0_gains_89 ?_
          exact jx_iret E hr dX0_gains_90 (by simp only [gainsP]; omega) (by first | rfl | (congr 1; done))
        · skip
          refine jx_tabIn (tgt := 91) (off := 45) E 5 dX0_gains_46 c15 (by unfold inR; decide) (by rfl) (by decide) ?_
          refine jx_iconst E dX0_gains_91 ?_
          refine jx_iload E 0 dX0_gains_92 rfl ?_
          refine jx_max E wl_X0_35 mm_max dX0_gains_94 ?_
          exact jx_iret E hr dX0_gains_97 (by simp only [gainsP]; omega) (by first | rfl | (congr 1; done))
        · skip
          refine jx_tabOut (tgt := 98) E dX0_gains_46 c15 (by decide) ?_
          refine jx_iload_n E 2 dX0_gains_98 rfl ?_
          exact jx_iret E hr dX0_gains_99 (by simp only [gainsP]; omega) (by first | rfl | (congr 1; done))
set_option maxHeartbeats 4000000 in
theorem c_X0_givesWay_0 (l : Launch) (G : GT) (a : Nat → Nat) (x : MS) {i : Int} (h1 : 0 ≤ i ∧ i < 8) (h2 : VF (x 0) i) : CtI l G yX0_givesWay cX0_givesWay 4 (some .int) 1 [.ref (a (5 + 12 * 0 + i.toNat))] (wsX G a x) (givesP (x 0) i) (wsX G a x) := by
  obtain ⟨k1, k2, k3, k4, k5⟩ := id h2
  refine CtI.of (by decide) (Nat.le_of_ble_eq_true rfl) ?_
  intro p e s m args below meth c A E hr
  refine jx_lv (lv' := [(0, .ref (a (5 + 12 * 0 + i.toNat)))]) [0] rfl ?_
  refine jx_aload_n E 0 dX0_givesWay_0 rfl ?_
  refine jx_get E f_X0 1 (v := vI ((x 0) (21 + 5 * i + 1))) (wx_fou (by decide) (by omega) (by omega)) (by decide) wf_X0_15 rfl dX0_givesWay_1 ?_
  refine jx_aload_n E 0 dX0_givesWay_4 rfl ?_
  refine jx_get E f_X0 3 (v := vI ((x 0) (21 + 5 * i + 3))) (wx_fou (by decide) (by omega) (by omega)) (by decide) wf_X0_21 rfl dX0_givesWay_5 ?_
  refine jx_isub E dX0_givesWay_8 ?_
  refine jx_istore_n E dX0_givesWay_9 (by decide) [(1, vI (((x 0) (21 + 5 * i + 1)) - ((x 0) (21 + 5 * i + 3)))), (0, .ref (a (5 + 12 * 0 + i.toNat)))] rfl ?_
  refine jx_iload_n E 0 dX0_givesWay_10 rfl ?_
  refine jx_bipush E dX0_givesWay_11 ?_
  refine jx_isub E dX0_givesWay_13 ?_
  refine jx_istore_n E dX0_givesWay_14 (by decide) [(2, vI ((((x 0) (21 + 5 * i + 1)) - ((x 0) (21 + 5 * i + 3))) - 20)), (1, vI (((x 0) (21 + 5 * i + 1)) - ((x 0) (21 + 5 * i + 3)))), (0, .ref (a (5 + 12 * 0 + i.toNat)))] rfl ?_
  refine jx_sipush E dX0_givesWay_15 ?_
  refine jx_aload_n E 2 dX0_givesWay_18 rfl ?_
  refine jx_get E f_X0 3 (v := vI ((x 0) (21 + 5 * i + 3))) (wx_fou (by decide) (by omega) (by omega)) (by decide) wf_X0_21 rfl dX0_givesWay_19 ?_
  refine jx_isub E dX0_givesWay_22 ?_
  refine jx_istore_n E dX0_givesWay_23 (by decide) [(3, vI ((-200) - ((x 0) (21 + 5 * i + 3)))), (2, vI ((((x 0) (21 + 5 * i + 1)) - ((x 0) (21 + 5 * i + 3))) - 20)), (1, vI (((x 0) (21 + 5 * i + 1)) - ((x 0) (21 + 5 * i + 3)))), (0, .ref (a (5 + 12 * 0 + i.toNat)))] rfl ?_
  refine jx_aload_n E 3 dX0_givesWay_24 rfl ?_
  refine jx_get E f_X0 0 (v := vI ((x 0) (21 + 5 * i))) (wx_fou (by decide) (by omega) (by omega)) (by decide) wf_X0_9 rfl dX0_givesWay_25 ?_
  rcases (show (x 0) (21 + 5 * i) = 1 ∨ (x 0) (21 + 5 * i) = 2 ∨ (x 0) (21 + 5 * i) = 3 ∨ (x 0) (21 + 5 * i) = 4 ∨ (x 0) (21 + 5 * i) = 5 ∨ ((x 0) (21 + 5 * i) < 1 ∨ 5 < (x 0) (21 + 5 * i)) by omega) with c1 | c1 | c1 | c1 | c1 | c1
  · skip
    refine jx_tabIn (tgt := 64) (off := 36) E 1 dX0_givesWay_28 c1 (by unfold inR; decide) (by rfl) (by decide) ?_
    refine jx_iload_n E 1 dX0_givesWay_64 rfl ?_
    exact jx_iret E hr dX0_givesWay_65 (by simp only [givesP]; omega) (by first | rfl | (congr 1; done))
  · skip
    refine jx_tabIn (tgt := 78) (off := 50) E 2 dX0_givesWay_28 c1 (by unfold inR; decide) (by rfl) (by decide) ?_
    refine jx_iload_n E 2 dX0_givesWay_78 rfl ?_
    exact jx_iret E hr dX0_givesWay_79 (by simp only [givesP]; omega) (by first | rfl | (congr 1; done))
  · skip
    refine jx_tabIn (tgt := 66) (off := 38) E 3 dX0_givesWay_28 c1 (by unfold inR; decide) (by rfl) (by decide) ?_
    refine jx_iload_n E 0 dX0_givesWay_66 rfl ?_
    exact jx_iret E hr dX0_givesWay_67 (by simp only [givesP]; omega) (by first | rfl | (congr 1; done))
  · skip
    refine jx_tabIn (tgt := 68) (off := 40) E 4 dX0_givesWay_28 c1 (by unfold inR; decide) (by rfl) (by decide) ?_
    refine jx_iload_n E 1 dX0_givesWay_68 rfl ?_
    refine jx_iconst E dX0_givesWay_69 ?_
    refine jx_iadd E dX0_givesWay_70 ?_
    exact jx_iret E hr dX0_givesWay_71 (by simp only [givesP]; omega) (by first | rfl | (congr 1; done))
  · skip
    refine jx_tabIn (tgt := 72) (off := 44) E 5 dX0_givesWay_28 c1 (by unfold inR; decide) (by rfl) (by decide) ?_
    refine jx_iload_n E 0 dX0_givesWay_72 rfl ?_
    refine jx_sipush E dX0_givesWay_73 ?_
    refine jx_isub E dX0_givesWay_76 ?_
    exact jx_iret E hr dX0_givesWay_77 (by simp only [givesP]; omega) (by first | rfl | (congr 1; done))
  · skip
    refine jx_tabOut (tgt := 78) E dX0_givesWay_28 c1 (by decide) ?_
    refine jx_iload_n E 2 dX0_givesWay_78 rfl ?_
    exact jx_iret E hr dX0_givesWay_79 (by simp only [givesP]; omega) (by first | rfl | (congr 1; done))
set_option maxHeartbeats 4000000 in
theorem c_X0_givesWay_1 (l : Launch) (G : GT) (a : Nat → Nat) (x : MS) {i : Int} (h1 : 0 ≤ i ∧ i < 8) (h2 : VF (x 1) i) : CtI l G yX0_givesWay cX0_givesWay 4 (some .int) 1 [.ref (a (5 + 12 * 1 + i.toNat))] (wsX G a x) (givesP (x 1) i) (wsX G a x) := by
  obtain ⟨k1, k2, k3, k4, k5⟩ := id h2
  refine CtI.of (by decide) (Nat.le_of_ble_eq_true rfl) ?_
  intro p e s m args below meth c A E hr
  refine jx_lv (lv' := [(0, .ref (a (5 + 12 * 1 + i.toNat)))]) [0] rfl ?_
  refine jx_aload_n E 0 dX0_givesWay_0 rfl ?_
  refine jx_get E f_X0 1 (v := vI ((x 1) (21 + 5 * i + 1))) (wx_fou (by decide) (by omega) (by omega)) (by decide) wf_X0_15 rfl dX0_givesWay_1 ?_
  refine jx_aload_n E 0 dX0_givesWay_4 rfl ?_
  refine jx_get E f_X0 3 (v := vI ((x 1) (21 + 5 * i + 3))) (wx_fou (by decide) (by omega) (by omega)) (by decide) wf_X0_21 rfl dX0_givesWay_5 ?_
  refine jx_isub E dX0_givesWay_8 ?_
  refine jx_istore_n E dX0_givesWay_9 (by decide) [(1, vI (((x 1) (21 + 5 * i + 1)) - ((x 1) (21 + 5 * i + 3)))), (0, .ref (a (5 + 12 * 1 + i.toNat)))] rfl ?_
  refine jx_iload_n E 0 dX0_givesWay_10 rfl ?_
  refine jx_bipush E dX0_givesWay_11 ?_
  refine jx_isub E dX0_givesWay_13 ?_
  refine jx_istore_n E dX0_givesWay_14 (by decide) [(2, vI ((((x 1) (21 + 5 * i + 1)) - ((x 1) (21 + 5 * i + 3))) - 20)), (1, vI (((x 1) (21 + 5 * i + 1)) - ((x 1) (21 + 5 * i + 3)))), (0, .ref (a (5 + 12 * 1 + i.toNat)))] rfl ?_
  refine jx_sipush E dX0_givesWay_15 ?_
  refine jx_aload_n E 2 dX0_givesWay_18 rfl ?_
  refine jx_get E f_X0 3 (v := vI ((x 1) (21 + 5 * i + 3))) (wx_fou (by decide) (by omega) (by omega)) (by decide) wf_X0_21 rfl dX0_givesWay_19 ?_
  refine jx_isub E dX0_givesWay_22 ?_
  refine jx_istore_n E dX0_givesWay_23 (by decide) [(3, vI ((-200) - ((x 1) (21 + 5 * i + 3)))), (2, vI ((((x 1) (21 + 5 * i + 1)) - ((x 1) (21 + 5 * i + 3))) - 20)), (1, vI (((x 1) (21 + 5 * i + 1)) - ((x 1) (21 + 5 * i + 3)))), (0, .ref (a (5 + 12 * 1 + i.toNat)))] rfl ?_
  refine jx_aload_n E 3 dX0_givesWay_24 rfl ?_
  refine jx_get E f_X0 0 (v := vI ((x 1) (21 + 5 * i))) (wx_fou (by decide) (by omega) (by omega)) (by decide) wf_X0_9 rfl dX0_givesWay_25 ?_
  rcases (show (x 1) (21 + 5 * i) = 1 ∨ (x 1) (21 + 5 * i) = 2 ∨ (x 1) (21 + 5 * i) = 3 ∨ (x 1) (21 + 5 * i) = 4 ∨ (x 1) (21 + 5 * i) = 5 ∨ ((x 1) (21 + 5 * i) < 1 ∨ 5 < (x 1) (21 + 5 * i)) by omega) with c1 | c1 | c1 | c1 | c1 | c1
  · skip
    refine jx_tabIn (tgt := 64) (off := 36) E 1 dX0_givesWay_28 c1 (by unfold inR; decide) (by rfl) (by decide) ?_
    refine jx_iload_n E 1 dX0_givesWay_64 rfl ?_
    exact jx_iret E hr dX0_givesWay_65 (by simp only [givesP]; omega) (by first | rfl | (congr 1; done))
  · skip
    refine jx_tabIn (tgt := 78) (off := 50) E 2 dX0_givesWay_28 c1 (by unfold inR; decide) (by rfl) (by decide) ?_
    refine jx_iload_n E 2 dX0_givesWay_78 rfl ?_
    exact jx_iret E hr dX0_givesWay_79 (by simp only [givesP]; omega) (by first | rfl | (congr 1; done))
  · skip
    refine jx_tabIn (tgt := 66) (off := 38) E 3 dX0_givesWay_28 c1 (by unfold inR; decide) (by rfl) (by decide) ?_
    refine jx_iload_n E 0 dX0_givesWay_66 rfl ?_
    exact jx_iret E hr dX0_givesWay_67 (by simp only [givesP]; omega) (by first | rfl | (congr 1; done))
  · skip
    refine jx_tabIn (tgt := 68) (off := 40) E 4 dX0_givesWay_28 c1 (by unfold inR; decide) (by rfl) (by decide) ?_
    refine jx_iload_n E 1 dX0_givesWay_68 rfl ?_
    refine jx_iconst E dX0_givesWay_69 ?_
    refine jx_iadd E dX0_givesWay_70 ?_
    exact jx_iret E hr dX0_givesWay_71 (by simp only [givesP]; omega) (by first | rfl | (congr 1; done))
  · skip
    refine jx_tabIn (tgt := 72) (off := 44) E 5 dX0_givesWay_28 c1 (by unfold inR; decide) (by rfl) (by decide) ?_
    refine jx_iload_n E 0 dX0_givesWay_72 rfl ?_
    refine jx_sipush E dX0_givesWay_73 ?_
    refine jx_isub E dX0_givesWay_76 ?_
    exact jx_iret E hr dX0_givesWay_77 (by simp only [givesP]; omega) (by first | rfl | (congr 1; done))
  · skip
    refine jx_tabOut (tgt := 78) E dX0_givesWay_28 c1 (by decide) ?_
    refine jx_iload_n E 2 dX0_givesWay_78 rfl ?_
    exact jx_iret E hr dX0_givesWay_79 (by simp only [givesP]; omega) (by first | rfl | (congr 1; done))
set_option maxHeartbeats 4000000 in
theorem c_X0_stoop_0 (l : Launch) (G : GT) (a : Nat → Nat) (x : MS) {i : Int} (h1 : 0 ≤ i ∧ i < 8) (h2 : VF (x 0) i) : CtV l G yX0_stoop cX0_stoop 1 none 1 [.ref (a (5 + 12 * 0 + i.toNat))] (wsX G a x) (wsX G a (setc x 0 (stoopP (x 0) i))) := by
  obtain ⟨k1, k2, k3, k4, k5⟩ := id h2
  have hq : updI (x 0) (21 + 5 * i + 2) 1 (21 + 5 * i + 4) = x 0 (21 + 5 * i + 4) := updI_ne _ _ (by omega)
  refine CtV.of (by decide) (Nat.le_of_ble_eq_true rfl) ?_
  intro p e s m args below meth c A E hr
  refine jx_lv (lv' := [(0, .ref (a (5 + 12 * 0 + i.toNat)))]) [0] rfl ?_
  refine jx_aload_n E 0 dX0_stoop_0 rfl ?_
  refine jx_iconst E dX0_stoop_1 ?_
  refine jx_put E f_X0 2 (wx_fou (by decide) (by omega) (by omega)) (by decide) wf_X0_18 rfl rfl rfl (Nat.le_of_ble_eq_true rfl) (wp_fou2 (by decide) (by omega) (by omega)) dX0_stoop_2 ?_
  refine jx_aload_n E 0 dX0_stoop_5 rfl ?_
  refine jx_sipush E dX0_stoop_6 ?_
  refine jx_aload_n E 0 dX0_stoop_9 rfl ?_
  refine jx_get E f_X0 4 (v := vI ((updI (x 0) (21 + 5 * i + 2) 1) (21 + 5 * i + 4))) (wx_fou (by decide) (by omega) (by omega)) (by decide) wf_X0_24 (by first | rfl | (simp only [setc_at, List.getElem?_cons_zero, List.getElem?_cons_succ]; done) | (simp [setc_at]; done)) dX0_stoop_10 ?_
  refine jx_iconst E dX0_stoop_13 ?_
  refine jx_iadd E dX0_stoop_14 ?_
  refine jx_min E wl_X0_44 mm_min dX0_stoop_15 ?_
  refine jx_put E f_X0 4 (wx_fou (by decide) (by omega) (by omega)) (by decide) wf_X0_24 rfl rfl rfl (Nat.le_of_ble_eq_true rfl) (wp_fou4 (by decide) (by omega) (by omega)) dX0_stoop_18 ?_
  refine jx_eq (ws' := wsX G a (setc x 0 (updI (updI (x 0) (21 + 5 * i + 2) 1) (21 + 5 * i + 4) (min 9999 (((updI (x 0) (21 + 5 * i + 2) 1) (21 + 5 * i + 4)) + 1))))) (congrArg (wsX G a) (by first | rfl | (rw [setc_setc]; rfl) | exact setc_in _ _ _ _ (by decide) | exact setc_in2 _ _ _ _ _ (by decide) (by decide) | (simp only [setc_setc, setc_at]; done) | (simp only [setc_setc, setc_at]; rfl) | (funext d; simp only [setc_app]; (repeat' split) <;> first | rfl | omega))) ?_
  exact jx_vret E hr dX0_stoop_21 (congrArg (fun z => wsX G a (setc x 0 (updI (updI (x 0) (21 + 5 * i + 2) 1) (21 + 5 * i + 4) z))) (by omega))
set_option maxHeartbeats 4000000 in
theorem c_X0_stoop_1 (l : Launch) (G : GT) (a : Nat → Nat) (x : MS) {i : Int} (h1 : 0 ≤ i ∧ i < 8) (h2 : VF (x 1) i) : CtV l G yX0_stoop cX0_stoop 1 none 1 [.ref (a (5 + 12 * 1 + i.toNat))] (wsX G a x) (wsX G a (setc x 1 (stoopP (x 1) i))) := by
  obtain ⟨k1, k2, k3, k4, k5⟩ := id h2
  have hq : updI (x 1) (21 + 5 * i + 2) 1 (21 + 5 * i + 4) = x 1 (21 + 5 * i + 4) := updI_ne _ _ (by omega)
  refine CtV.of (by decide) (Nat.le_of_ble_eq_true rfl) ?_
  intro p e s m args below meth c A E hr
  refine jx_lv (lv' := [(0, .ref (a (5 + 12 * 1 + i.toNat)))]) [0] rfl ?_
  refine jx_aload_n E 0 dX0_stoop_0 rfl ?_
  refine jx_iconst E dX0_stoop_1 ?_
  refine jx_put E f_X0 2 (wx_fou (by decide) (by omega) (by omega)) (by decide) wf_X0_18 rfl rfl rfl (Nat.le_of_ble_eq_true rfl) (wp_fou2 (by decide) (by omega) (by omega)) dX0_stoop_2 ?_
  refine jx_aload_n E 0 dX0_stoop_5 rfl ?_
  refine jx_sipush E dX0_stoop_6 ?_
  refine jx_aload_n E 0 dX0_stoop_9 rfl ?_
  refine jx_get E f_X0 4 (v := vI ((updI (x 1) (21 + 5 * i + 2) 1) (21 + 5 * i + 4))) (wx_fou (by decide) (by omega) (by omega)) (by decide) wf_X0_24 (by first | rfl | (simp only [setc_at, List.getElem?_cons_zero, List.getElem?_cons_succ]; done) | (simp [setc_at]; done)) dX0_stoop_10 ?_
  refine jx_iconst E dX0_stoop_13 ?_
  refine jx_iadd E dX0_stoop_14 ?_
  refine jx_min E wl_X0_44 mm_min dX0_stoop_15 ?_
  refine jx_put E f_X0 4 (wx_fou (by decide) (by omega) (by omega)) (by decide) wf_X0_24 rfl rfl rfl (Nat.le_of_ble_eq_true rfl) (wp_fou4 (by decide) (by omega) (by omega)) dX0_stoop_18 ?_
  refine jx_eq (ws' := wsX G a (setc x 1 (updI (updI (x 1) (21 + 5 * i + 2) 1) (21 + 5 * i + 4) (min 9999 (((updI (x 1) (21 + 5 * i + 2) 1) (21 + 5 * i + 4)) + 1))))) (congrArg (wsX G a) (by first | rfl | (rw [setc_setc]; rfl) | exact setc_in _ _ _ _ (by decide) | exact setc_in2 _ _ _ _ _ (by decide) (by decide) | (simp only [setc_setc, setc_at]; done) | (simp only [setc_setc, setc_at]; rfl) | (funext d; simp only [setc_app]; (repeat' split) <;> first | rfl | omega))) ?_
  exact jx_vret E hr dX0_stoop_21 (congrArg (fun z => wsX G a (setc x 1 (updI (updI (x 1) (21 + 5 * i + 2) 1) (21 + 5 * i + 4) z))) (by omega))
set_option maxHeartbeats 4000000 in
theorem c_X0_endDay_0 (l : Launch) (G : GT) (a : Nat → Nat) (x : MS) {cd i : Int} (h1 : 0 ≤ i ∧ i < 8) (h2 : VF (x 0) i) (h3 : cd = 0 ∨ cd = 1) : CtV l G yX0_endDay cX0_endDay 2 none 2 [.ref (a (5 + 12 * 0 + i.toNat)), vI cd] (wsX G a x) (wsX G a (setc x 0 (gainP cd (x 0) i))) := by
  obtain ⟨k1, k2, k3, k4, k5⟩ := id h2
  have hg := gains_in (t := x 0) (i := i) (c := cd)
  refine CtV.of (by decide) (Nat.le_of_ble_eq_true rfl) ?_
  intro p e s m args below meth c A E hr
  refine jx_lv (lv' := [(0, .ref (a (5 + 12 * 0 + i.toNat))), (1, vI cd)]) [0, 1] rfl ?_
  refine jx_aload_n E 0 dX0_endDay_0 rfl ?_
  refine jx_iconst E dX0_endDay_1 ?_
  refine jx_bipush E dX0_endDay_2 ?_
  refine jx_aload_n E 0 dX0_endDay_4 rfl ?_
  refine jx_get E f_X0 3 (v := vI ((x 0) (21 + 5 * i + 3))) (wx_fou (by decide) (by omega) (by omega)) (by decide) wf_X0_21 rfl dX0_endDay_5 ?_
  refine jx_aload_n E 0 dX0_endDay_8 rfl ?_
  refine jx_iload_n E 1 dX0_endDay_9 rfl ?_
  refine jx_callVi E [vI cd] [vI ((x 0) (21 + 5 * i + 3)), vI 99, vI 0, .ref (a (5 + 12 * 0 + i.toNat))] (c_X0_gains_0 l G a x (cd := cd) (i := i) (by omega) (by assumption) (by omega)) mb_X0_gains mv_X0_gains wl_X0_47 f_X0 (wx_fou (by decide) (by omega) (by omega)) dX0_endDay_10 ?_
  refine jx_iadd E dX0_endDay_13 ?_
  refine jx_min E wl_X0_44 mm_min dX0_endDay_14 ?_
  refine jx_max E wl_X0_35 mm_max dX0_endDay_17 ?_
  refine jx_put E f_X0 3 (wx_fou (by decide) (by omega) (by omega)) (by decide) wf_X0_21 rfl rfl rfl (Nat.le_of_ble_eq_true rfl) (wp_fou3 (by decide) (by omega) (by omega)) dX0_endDay_20 ?_
  exact jx_vret E hr dX0_endDay_23 (by first | rfl | (congr 1; done))
set_option maxHeartbeats 4000000 in
theorem c_X0_endDay_1 (l : Launch) (G : GT) (a : Nat → Nat) (x : MS) {cd i : Int} (h1 : 0 ≤ i ∧ i < 8) (h2 : VF (x 1) i) (h3 : cd = 0 ∨ cd = 1) : CtV l G yX0_endDay cX0_endDay 2 none 2 [.ref (a (5 + 12 * 1 + i.toNat)), vI cd] (wsX G a x) (wsX G a (setc x 1 (gainP cd (x 1) i))) := by
  obtain ⟨k1, k2, k3, k4, k5⟩ := id h2
  have hg := gains_in (t := x 1) (i := i) (c := cd)
  refine CtV.of (by decide) (Nat.le_of_ble_eq_true rfl) ?_
  intro p e s m args below meth c A E hr
  refine jx_lv (lv' := [(0, .ref (a (5 + 12 * 1 + i.toNat))), (1, vI cd)]) [0, 1] rfl ?_
  refine jx_aload_n E 0 dX0_endDay_0 rfl ?_
  refine jx_iconst E dX0_endDay_1 ?_
  refine jx_bipush E dX0_endDay_2 ?_
  refine jx_aload_n E 0 dX0_endDay_4 rfl ?_
  refine jx_get E f_X0 3 (v := vI ((x 1) (21 + 5 * i + 3))) (wx_fou (by decide) (by omega) (by omega)) (by decide) wf_X0_21 rfl dX0_endDay_5 ?_
  refine jx_aload_n E 0 dX0_endDay_8 rfl ?_
  refine jx_iload_n E 1 dX0_endDay_9 rfl ?_
  refine jx_callVi E [vI cd] [vI ((x 1) (21 + 5 * i + 3)), vI 99, vI 0, .ref (a (5 + 12 * 1 + i.toNat))] (c_X0_gains_1 l G a x (cd := cd) (i := i) (by omega) (by assumption) (by omega)) mb_X0_gains mv_X0_gains wl_X0_47 f_X0 (wx_fou (by decide) (by omega) (by omega)) dX0_endDay_10 ?_
  refine jx_iadd E dX0_endDay_13 ?_
  refine jx_min E wl_X0_44 mm_min dX0_endDay_14 ?_
  refine jx_max E wl_X0_35 mm_max dX0_endDay_17 ?_
  refine jx_put E f_X0 3 (wx_fou (by decide) (by omega) (by omega)) (by decide) wf_X0_21 rfl rfl rfl (Nat.le_of_ble_eq_true rfl) (wp_fou3 (by decide) (by omega) (by omega)) dX0_endDay_20 ?_
  exact jx_vret E hr dX0_endDay_23 (by first | rfl | (congr 1; done))
set_option maxHeartbeats 4000000 in
theorem c_X0_begin_0 (l : Launch) (G : GT) (a : Nat → Nat) (x : MS) {kd i : Int} (h1 : 0 ≤ i ∧ i < 8) : CtV l G yX0_begin cX0_begin 2 none 1 [.ref (a (5 + 12 * 0 + i.toNat)), vI kd] (wsX G a x) (wsX G a (setc x 0 (beginP (x 0) i kd))) := by
  refine CtV.of (by decide) (Nat.le_of_ble_eq_true rfl) ?_
  intro p e s m args below meth c A E hr
  refine jx_lv (lv' := [(0, .ref (a (5 + 12 * 0 + i.toNat))), (1, vI kd)]) [0, 1] rfl ?_
  refine jx_aload_n E 0 dX0_begin_0 rfl ?_
  refine jx_iload_n E 1 dX0_begin_1 rfl ?_
  refine jx_put E f_X0 0 (wx_fou (by decide) (by omega) (by omega)) (by decide) wf_X0_9 rfl rfl rfl (Nat.le_of_ble_eq_true rfl) (wp_fou0 (by decide) (by omega) (by omega)) dX0_begin_2 ?_
  refine jx_aload_n E 0 dX0_begin_5 rfl ?_
  refine jx_bipush E dX0_begin_6 ?_
  refine jx_put E f_X0 1 (wx_fou (by decide) (by omega) (by omega)) (by decide) wf_X0_15 rfl rfl rfl (Nat.le_of_ble_eq_true rfl) (wp_fou1 (by decide) (by omega) (by omega)) dX0_begin_8 ?_
  refine jx_eq (ws' := wsX G a (setc x 0 (updI (updI (x 0) (21 + 5 * i) kd) (21 + 5 * i + 1) 10))) (congrArg (wsX G a) (by first | rfl | (rw [setc_setc]; rfl) | exact setc_in _ _ _ _ (by decide) | exact setc_in2 _ _ _ _ _ (by decide) (by decide) | (simp only [setc_setc, setc_at]; done) | (simp only [setc_setc, setc_at]; rfl) | (funext d; simp only [setc_app]; (repeat' split) <;> first | rfl | omega))) ?_
  refine jx_aload_n E 0 dX0_begin_11 rfl ?_
  refine jx_iconst E dX0_begin_12 ?_
  refine jx_put E f_X0 2 (wx_fou (by decide) (by omega) (by omega)) (by decide) wf_X0_18 rfl rfl rfl (Nat.le_of_ble_eq_true rfl) (wp_fou2 (by decide) (by omega) (by omega)) dX0_begin_13 ?_
  refine jx_eq (ws' := wsX G a (setc x 0 (updI (updI (updI (x 0) (21 + 5 * i) kd) (21 + 5 * i + 1) 10) (21 + 5 * i + 2) 0))) (congrArg (wsX G a) (by first | rfl | (rw [setc_setc]; rfl) | exact setc_in _ _ _ _ (by decide) | exact setc_in2 _ _ _ _ _ (by decide) (by decide) | (simp only [setc_setc, setc_at]; done) | (simp only [setc_setc, setc_at]; rfl) | (funext d; simp only [setc_app]; (repeat' split) <;> first | rfl | omega))) ?_
  refine jx_aload_n E 0 dX0_begin_16 rfl ?_
  refine jx_bipush E dX0_begin_17 ?_
  refine jx_put E f_X0 3 (wx_fou (by decide) (by omega) (by omega)) (by decide) wf_X0_21 rfl rfl rfl (Nat.le_of_ble_eq_true rfl) (wp_fou3 (by decide) (by omega) (by omega)) dX0_begin_19 ?_
  refine jx_eq (ws' := wsX G a (setc x 0 (updI (updI (updI (updI (x 0) (21 + 5 * i) kd) (21 + 5 * i + 1) 10) (21 + 5 * i + 2) 0) (21 + 5 * i + 3) 20))) (congrArg (wsX G a) (by first | rfl | (rw [setc_setc]; rfl) | exact setc_in _ _ _ _ (by decide) | exact setc_in2 _ _ _ _ _ (by decide) (by decide) | (simp only [setc_setc, setc_at]; done) | (simp only [setc_setc, setc_at]; rfl) | (funext d; simp only [setc_app]; (repeat' split) <;> first | rfl | omega))) ?_
  refine jx_aload_n E 0 dX0_begin_22 rfl ?_
  refine jx_iconst E dX0_begin_23 ?_
  refine jx_put E f_X0 4 (wx_fou (by decide) (by omega) (by omega)) (by decide) wf_X0_24 rfl rfl rfl (Nat.le_of_ble_eq_true rfl) (wp_fou4 (by decide) (by omega) (by omega)) dX0_begin_24 ?_
  refine jx_eq (ws' := wsX G a (setc x 0 (updI (updI (updI (updI (updI (x 0) (21 + 5 * i) kd) (21 + 5 * i + 1) 10) (21 + 5 * i + 2) 0) (21 + 5 * i + 3) 20) (21 + 5 * i + 4) 0))) (congrArg (wsX G a) (by first | rfl | (rw [setc_setc]; rfl) | exact setc_in _ _ _ _ (by decide) | exact setc_in2 _ _ _ _ _ (by decide) (by decide) | (simp only [setc_setc, setc_at]; done) | (simp only [setc_setc, setc_at]; rfl) | (funext d; simp only [setc_app]; (repeat' split) <;> first | rfl | omega))) ?_
  exact jx_vret E hr dX0_begin_27 (by first | rfl | (congr 1; done))
set_option maxHeartbeats 4000000 in
theorem c_X0_begin_1 (l : Launch) (G : GT) (a : Nat → Nat) (x : MS) {kd i : Int} (h1 : 0 ≤ i ∧ i < 8) : CtV l G yX0_begin cX0_begin 2 none 1 [.ref (a (5 + 12 * 1 + i.toNat)), vI kd] (wsX G a x) (wsX G a (setc x 1 (beginP (x 1) i kd))) := by
  refine CtV.of (by decide) (Nat.le_of_ble_eq_true rfl) ?_
  intro p e s m args below meth c A E hr
  refine jx_lv (lv' := [(0, .ref (a (5 + 12 * 1 + i.toNat))), (1, vI kd)]) [0, 1] rfl ?_
  refine jx_aload_n E 0 dX0_begin_0 rfl ?_
  refine jx_iload_n E 1 dX0_begin_1 rfl ?_
  refine jx_put E f_X0 0 (wx_fou (by decide) (by omega) (by omega)) (by decide) wf_X0_9 rfl rfl rfl (Nat.le_of_ble_eq_true rfl) (wp_fou0 (by decide) (by omega) (by omega)) dX0_begin_2 ?_
  refine jx_aload_n E 0 dX0_begin_5 rfl ?_
  refine jx_bipush E dX0_begin_6 ?_
  refine jx_put E f_X0 1 (wx_fou (by decide) (by omega) (by omega)) (by decide) wf_X0_15 rfl rfl rfl (Nat.le_of_ble_eq_true rfl) (wp_fou1 (by decide) (by omega) (by omega)) dX0_begin_8 ?_
  refine jx_eq (ws' := wsX G a (setc x 1 (updI (updI (x 1) (21 + 5 * i) kd) (21 + 5 * i + 1) 10))) (congrArg (wsX G a) (by first | rfl | (rw [setc_setc]; rfl) | exact setc_in _ _ _ _ (by decide) | exact setc_in2 _ _ _ _ _ (by decide) (by decide) | (simp only [setc_setc, setc_at]; done) | (simp only [setc_setc, setc_at]; rfl) | (funext d; simp only [setc_app]; (repeat' split) <;> first | rfl | omega))) ?_
  refine jx_aload_n E 0 dX0_begin_11 rfl ?_
  refine jx_iconst E dX0_begin_12 ?_
  refine jx_put E f_X0 2 (wx_fou (by decide) (by omega) (by omega)) (by decide) wf_X0_18 rfl rfl rfl (Nat.le_of_ble_eq_true rfl) (wp_fou2 (by decide) (by omega) (by omega)) dX0_begin_13 ?_
  refine jx_eq (ws' := wsX G a (setc x 1 (updI (updI (updI (x 1) (21 + 5 * i) kd) (21 + 5 * i + 1) 10) (21 + 5 * i + 2) 0))) (congrArg (wsX G a) (by first | rfl | (rw [setc_setc]; rfl) | exact setc_in _ _ _ _ (by decide) | exact setc_in2 _ _ _ _ _ (by decide) (by decide) | (simp only [setc_setc, setc_at]; done) | (simp only [setc_setc, setc_at]; rfl) | (funext d; simp only [setc_app]; (repeat' split) <;> first | rfl | omega))) ?_
  refine jx_aload_n E 0 dX0_begin_16 rfl ?_
  refine jx_bipush E dX0_begin_17 ?_
  refine jx_put E f_X0 3 (wx_fou (by decide) (by omega) (by omega)) (by decide) wf_X0_21 rfl rfl rfl (Nat.le_of_ble_eq_true rfl) (wp_fou3 (by decide) (by omega) (by omega)) dX0_begin_19 ?_
  refine jx_eq (ws' := wsX G a (setc x 1 (updI (updI (updI (updI (x 1) (21 + 5 * i) kd) (21 + 5 * i + 1) 10) (21 + 5 * i + 2) 0) (21 + 5 * i + 3) 20))) (congrArg (wsX G a) (by first | rfl | (rw [setc_setc]; rfl) | exact setc_in _ _ _ _ (by decide) | exact setc_in2 _ _ _ _ _ (by decide) (by decide) | (simp only [setc_setc, setc_at]; done) | (simp only [setc_setc, setc_at]; rfl) | (funext d; simp only [setc_app]; (repeat' split) <;> first | rfl | omega))) ?_
  refine jx_aload_n E 0 dX0_begin_22 rfl ?_
  refine jx_iconst E dX0_begin_23 ?_
  refine jx_put E f_X0 4 (wx_fou (by decide) (by omega) (by omega)) (by decide) wf_X0_24 rfl rfl rfl (Nat.le_of_ble_eq_true rfl) (wp_fou4 (by decide) (by omega) (by omega)) dX0_begin_24 ?_
  refine jx_eq (ws' := wsX G a (setc x 1 (updI (updI (updI (updI (updI (x 1) (21 + 5 * i) kd) (21 + 5 * i + 1) 10) (21 + 5 * i + 2) 0) (21 + 5 * i + 3) 20) (21 + 5 * i + 4) 0))) (congrArg (wsX G a) (by first | rfl | (rw [setc_setc]; rfl) | exact setc_in _ _ _ _ (by decide) | exact setc_in2 _ _ _ _ _ (by decide) (by decide) | (simp only [setc_setc, setc_at]; done) | (simp only [setc_setc, setc_at]; rfl) | (funext d; simp only [setc_app]; (repeat' split) <;> first | rfl | omega))) ?_
  exact jx_vret E hr dX0_begin_27 (by first | rfl | (congr 1; done))
set_option maxHeartbeats 4000000 in
theorem c_X0_become_10 (l : Launch) (G : GT) (a : Nat → Nat) (x : MS) {i : Int} (h1 : 0 ≤ i ∧ i < 8) : CtV l G yX0_become cX0_become 2 none 1 [.ref (a (5 + 12 * 1 + i.toNat)), .ref (a (5 + 12 * 0 + i.toNat))] (wsX G a x) (wsX G a (setc x 1 (oneP (x 1) (x 0) i))) := by
  refine CtV.of (by decide) (Nat.le_of_ble_eq_true rfl) ?_
  intro p e s m args below meth c A E hr
  refine jx_lv (lv' := [(0, .ref (a (5 + 12 * 1 + i.toNat))), (1, .ref (a (5 + 12 * 0 + i.toNat)))]) [0, 1] rfl ?_
  refine jx_aload_n E 0 dX0_become_0 rfl ?_
  refine jx_aload_n E 1 dX0_become_1 rfl ?_
  refine jx_get E f_X0 0 (v := vI ((x 0) (21 + 5 * i))) (wx_fou (by decide) (by omega) (by omega)) (by decide) wf_X0_9 rfl dX0_become_2 ?_
  refine jx_put E f_X0 0 (wx_fou (by decide) (by omega) (by omega)) (by decide) wf_X0_9 rfl rfl rfl (Nat.le_of_ble_eq_true rfl) (wp_fou0 (by decide) (by omega) (by omega)) dX0_become_5 ?_
  refine jx_aload_n E 0 dX0_become_8 rfl ?_
  refine jx_aload_n E 1 dX0_become_9 rfl ?_
  refine jx_get E f_X0 1 (v := vI ((x 0) (21 + 5 * i + 1))) (wx_fou (by decide) (by omega) (by omega)) (by decide) wf_X0_15 (by first | rfl | (simp only [setc_at, List.getElem?_cons_zero, List.getElem?_cons_succ]; done) | (simp [setc_at]; done)) dX0_become_10 ?_
  refine jx_put E f_X0 1 (wx_fou (by decide) (by omega) (by omega)) (by decide) wf_X0_15 rfl rfl rfl (Nat.le_of_ble_eq_true rfl) (wp_fou1 (by decide) (by omega) (by omega)) dX0_become_13 ?_
  refine jx_eq (ws' := wsX G a (setc x 1 (updI (updI (x 1) (21 + 5 * i) ((x 0) (21 + 5 * i))) (21 + 5 * i + 1) ((x 0) (21 + 5 * i + 1))))) (congrArg (wsX G a) (by first | rfl | (rw [setc_setc]; rfl) | exact setc_in _ _ _ _ (by decide) | exact setc_in2 _ _ _ _ _ (by decide) (by decide) | (simp only [setc_setc, setc_at]; done) | (simp only [setc_setc, setc_at]; rfl) | (funext d; simp only [setc_app]; (repeat' split) <;> first | rfl | omega))) ?_
  refine jx_aload_n E 0 dX0_become_16 rfl ?_
  refine jx_aload_n E 1 dX0_become_17 rfl ?_
  refine jx_get E f_X0 2 (v := vI ((x 0) (21 + 5 * i + 2))) (wx_fou (by decide) (by omega) (by omega)) (by decide) wf_X0_18 (by first | rfl | (simp only [setc_at, List.getElem?_cons_zero, List.getElem?_cons_succ]; done) | (simp [setc_at]; done)) dX0_become_18 ?_
  refine jx_put E f_X0 2 (wx_fou (by decide) (by omega) (by omega)) (by decide) wf_X0_18 rfl rfl rfl (Nat.le_of_ble_eq_true rfl) (wp_fou2 (by decide) (by omega) (by omega)) dX0_become_21 ?_
  refine jx_eq (ws' := wsX G a (setc x 1 (updI (updI (updI (x 1) (21 + 5 * i) ((x 0) (21 + 5 * i))) (21 + 5 * i + 1) ((x 0) (21 + 5 * i + 1))) (21 + 5 * i + 2) ((x 0) (21 + 5 * i + 2))))) (congrArg (wsX G a) (by first | rfl | (rw [setc_setc]; rfl) | exact setc_in _ _ _ _ (by decide) | exact setc_in2 _ _ _ _ _ (by decide) (by decide) | (simp only [setc_setc, setc_at]; done) | (simp only [setc_setc, setc_at]; rfl) | (funext d; simp only [setc_app]; (repeat' split) <;> first | rfl | omega))) ?_
  refine jx_aload_n E 0 dX0_become_24 rfl ?_
  refine jx_aload_n E 1 dX0_become_25 rfl ?_
  refine jx_get E f_X0 3 (v := vI ((x 0) (21 + 5 * i + 3))) (wx_fou (by decide) (by omega) (by omega)) (by decide) wf_X0_21 (by first | rfl | (simp only [setc_at, List.getElem?_cons_zero, List.getElem?_cons_succ]; done) | (simp [setc_at]; done)) dX0_become_26 ?_
  refine jx_put E f_X0 3 (wx_fou (by decide) (by omega) (by omega)) (by decide) wf_X0_21 rfl rfl rfl (Nat.le_of_ble_eq_true rfl) (wp_fou3 (by decide) (by omega) (by omega)) dX0_become_29 ?_
  refine jx_eq (ws' := wsX G a (setc x 1 (updI (updI (updI (updI (x 1) (21 + 5 * i) ((x 0) (21 + 5 * i))) (21 + 5 * i + 1) ((x 0) (21 + 5 * i + 1))) (21 + 5 * i + 2) ((x 0) (21 + 5 * i + 2))) (21 + 5 * i + 3) ((x 0) (21 + 5 * i + 3))))) (congrArg (wsX G a) (by first | rfl | (rw [setc_setc]; rfl) | exact setc_in _ _ _ _ (by decide) | exact setc_in2 _ _ _ _ _ (by decide) (by decide) | (simp only [setc_setc, setc_at]; done) | (simp only [setc_setc, setc_at]; rfl) | (funext d; simp only [setc_app]; (repeat' split) <;> first | rfl | omega))) ?_
  refine jx_aload_n E 0 dX0_become_32 rfl ?_
  refine jx_aload_n E 1 dX0_become_33 rfl ?_
  refine jx_get E f_X0 4 (v := vI ((x 0) (21 + 5 * i + 4))) (wx_fou (by decide) (by omega) (by omega)) (by decide) wf_X0_24 (by first | rfl | (simp only [setc_at, List.getElem?_cons_zero, List.getElem?_cons_succ]; done) | (simp [setc_at]; done)) dX0_become_34 ?_
  refine jx_put E f_X0 4 (wx_fou (by decide) (by omega) (by omega)) (by decide) wf_X0_24 rfl rfl rfl (Nat.le_of_ble_eq_true rfl) (wp_fou4 (by decide) (by omega) (by omega)) dX0_become_37 ?_
  refine jx_eq (ws' := wsX G a (setc x 1 (updI (updI (updI (updI (updI (x 1) (21 + 5 * i) ((x 0) (21 + 5 * i))) (21 + 5 * i + 1) ((x 0) (21 + 5 * i + 1))) (21 + 5 * i + 2) ((x 0) (21 + 5 * i + 2))) (21 + 5 * i + 3) ((x 0) (21 + 5 * i + 3))) (21 + 5 * i + 4) ((x 0) (21 + 5 * i + 4))))) (congrArg (wsX G a) (by first | rfl | (rw [setc_setc]; rfl) | exact setc_in _ _ _ _ (by decide) | exact setc_in2 _ _ _ _ _ (by decide) (by decide) | (simp only [setc_setc, setc_at]; done) | (simp only [setc_setc, setc_at]; rfl) | (funext d; simp only [setc_app]; (repeat' split) <;> first | rfl | omega))) ?_
  exact jx_vret E hr dX0_become_40 (by first | rfl | (congr 1; done))
set_option maxHeartbeats 4000000 in
theorem c_X0_become_01 (l : Launch) (G : GT) (a : Nat → Nat) (x : MS) {i : Int} (h1 : 0 ≤ i ∧ i < 8) : CtV l G yX0_become cX0_become 2 none 1 [.ref (a (5 + 12 * 0 + i.toNat)), .ref (a (5 + 12 * 1 + i.toNat))] (wsX G a x) (wsX G a (setc x 0 (oneP (x 0) (x 1) i))) := by
  refine CtV.of (by decide) (Nat.le_of_ble_eq_true rfl) ?_
  intro p e s m args below meth c A E hr
  refine jx_lv (lv' := [(0, .ref (a (5 + 12 * 0 + i.toNat))), (1, .ref (a (5 + 12 * 1 + i.toNat)))]) [0, 1] rfl ?_
  refine jx_aload_n E 0 dX0_become_0 rfl ?_
  refine jx_aload_n E 1 dX0_become_1 rfl ?_
  refine jx_get E f_X0 0 (v := vI ((x 1) (21 + 5 * i))) (wx_fou (by decide) (by omega) (by omega)) (by decide) wf_X0_9 rfl dX0_become_2 ?_
  refine jx_put E f_X0 0 (wx_fou (by decide) (by omega) (by omega)) (by decide) wf_X0_9 rfl rfl rfl (Nat.le_of_ble_eq_true rfl) (wp_fou0 (by decide) (by omega) (by omega)) dX0_become_5 ?_
  refine jx_aload_n E 0 dX0_become_8 rfl ?_
  refine jx_aload_n E 1 dX0_become_9 rfl ?_
  refine jx_get E f_X0 1 (v := vI ((x 1) (21 + 5 * i + 1))) (wx_fou (by decide) (by omega) (by omega)) (by decide) wf_X0_15 (by first | rfl | (simp only [setc_at, List.getElem?_cons_zero, List.getElem?_cons_succ]; done) | (simp [setc_at]; done)) dX0_become_10 ?_
  refine jx_put E f_X0 1 (wx_fou (by decide) (by omega) (by omega)) (by decide) wf_X0_15 rfl rfl rfl (Nat.le_of_ble_eq_true rfl) (wp_fou1 (by decide) (by omega) (by omega)) dX0_become_13 ?_
  refine jx_eq (ws' := wsX G a (setc x 0 (updI (updI (x 0) (21 + 5 * i) ((x 1) (21 + 5 * i))) (21 + 5 * i + 1) ((x 1) (21 + 5 * i + 1))))) (congrArg (wsX G a) (by first | rfl | (rw [setc_setc]; rfl) | exact setc_in _ _ _ _ (by decide) | exact setc_in2 _ _ _ _ _ (by decide) (by decide) | (simp only [setc_setc, setc_at]; done) | (simp only [setc_setc, setc_at]; rfl) | (funext d; simp only [setc_app]; (repeat' split) <;> first | rfl | omega))) ?_
  refine jx_aload_n E 0 dX0_become_16 rfl ?_
  refine jx_aload_n E 1 dX0_become_17 rfl ?_
  refine jx_get E f_X0 2 (v := vI ((x 1) (21 + 5 * i + 2))) (wx_fou (by decide) (by omega) (by omega)) (by decide) wf_X0_18 (by first | rfl | (simp only [setc_at, List.getElem?_cons_zero, List.getElem?_cons_succ]; done) | (simp [setc_at]; done)) dX0_become_18 ?_
  refine jx_put E f_X0 2 (wx_fou (by decide) (by omega) (by omega)) (by decide) wf_X0_18 rfl rfl rfl (Nat.le_of_ble_eq_true rfl) (wp_fou2 (by decide) (by omega) (by omega)) dX0_become_21 ?_
  refine jx_eq (ws' := wsX G a (setc x 0 (updI (updI (updI (x 0) (21 + 5 * i) ((x 1) (21 + 5 * i))) (21 + 5 * i + 1) ((x 1) (21 + 5 * i + 1))) (21 + 5 * i + 2) ((x 1) (21 + 5 * i + 2))))) (congrArg (wsX G a) (by first | rfl | (rw [setc_setc]; rfl) | exact setc_in _ _ _ _ (by decide) | exact setc_in2 _ _ _ _ _ (by decide) (by decide) | (simp only [setc_setc, setc_at]; done) | (simp only [setc_setc, setc_at]; rfl) | (funext d; simp only [setc_app]; (repeat' split) <;> first | rfl | omega))) ?_
  refine jx_aload_n E 0 dX0_become_24 rfl ?_
  refine jx_aload_n E 1 dX0_become_25 rfl ?_
  refine jx_get E f_X0 3 (v := vI ((x 1) (21 + 5 * i + 3))) (wx_fou (by decide) (by omega) (by omega)) (by decide) wf_X0_21 (by first | rfl | (simp only [setc_at, List.getElem?_cons_zero, List.getElem?_cons_succ]; done) | (simp [setc_at]; done)) dX0_become_26 ?_
  refine jx_put E f_X0 3 (wx_fou (by decide) (by omega) (by omega)) (by decide) wf_X0_21 rfl rfl rfl (Nat.le_of_ble_eq_true rfl) (wp_fou3 (by decide) (by omega) (by omega)) dX0_become_29 ?_
  refine jx_eq (ws' := wsX G a (setc x 0 (updI (updI (updI (updI (x 0) (21 + 5 * i) ((x 1) (21 + 5 * i))) (21 + 5 * i + 1) ((x 1) (21 + 5 * i + 1))) (21 + 5 * i + 2) ((x 1) (21 + 5 * i + 2))) (21 + 5 * i + 3) ((x 1) (21 + 5 * i + 3))))) (congrArg (wsX G a) (by first | rfl | (rw [setc_setc]; rfl) | exact setc_in _ _ _ _ (by decide) | exact setc_in2 _ _ _ _ _ (by decide) (by decide) | (simp only [setc_setc, setc_at]; done) | (simp only [setc_setc, setc_at]; rfl) | (funext d; simp only [setc_app]; (repeat' split) <;> first | rfl | omega))) ?_
  refine jx_aload_n E 0 dX0_become_32 rfl ?_
  refine jx_aload_n E 1 dX0_become_33 rfl ?_
  refine jx_get E f_X0 4 (v := vI ((x 1) (21 + 5 * i + 4))) (wx_fou (by decide) (by omega) (by omega)) (by decide) wf_X0_24 (by first | rfl | (simp only [setc_at, List.getElem?_cons_zero, List.getElem?_cons_succ]; done) | (simp [setc_at]; done)) dX0_become_34 ?_
  refine jx_put E f_X0 4 (wx_fou (by decide) (by omega) (by omega)) (by decide) wf_X0_24 rfl rfl rfl (Nat.le_of_ble_eq_true rfl) (wp_fou4 (by decide) (by omega) (by omega)) dX0_become_37 ?_
  refine jx_eq (ws' := wsX G a (setc x 0 (updI (updI (updI (updI (updI (x 0) (21 + 5 * i) ((x 1) (21 + 5 * i))) (21 + 5 * i + 1) ((x 1) (21 + 5 * i + 1))) (21 + 5 * i + 2) ((x 1) (21 + 5 * i + 2))) (21 + 5 * i + 3) ((x 1) (21 + 5 * i + 3))) (21 + 5 * i + 4) ((x 1) (21 + 5 * i + 4))))) (congrArg (wsX G a) (by first | rfl | (rw [setc_setc]; rfl) | exact setc_in _ _ _ _ (by decide) | exact setc_in2 _ _ _ _ _ (by decide) (by decide) | (simp only [setc_setc, setc_at]; done) | (simp only [setc_setc, setc_at]; rfl) | (funext d; simp only [setc_app]; (repeat' split) <;> first | rfl | omega))) ?_
  exact jx_vret E hr dX0_become_40 (by first | rfl | (congr 1; done))
set_option maxHeartbeats 4000000 in
theorem c_X0_become_20 (l : Launch) (G : GT) (a : Nat → Nat) (x : MS) {i : Int} (h1 : 0 ≤ i ∧ i < 8) : CtV l G yX0_become cX0_become 2 none 1 [.ref (a (5 + 12 * 2 + i.toNat)), .ref (a (5 + 12 * 0 + i.toNat))] (wsX G a x) (wsX G a (setc x 2 (oneP (x 2) (x 0) i))) := by
  refine CtV.of (by decide) (Nat.le_of_ble_eq_true rfl) ?_
  intro p e s m args below meth c A E hr
  refine jx_lv (lv' := [(0, .ref (a (5 + 12 * 2 + i.toNat))), (1, .ref (a (5 + 12 * 0 + i.toNat)))]) [0, 1] rfl ?_
  refine jx_aload_n E 0 dX0_become_0 rfl ?_
  refine jx_aload_n E 1 dX0_become_1 rfl ?_
  refine jx_get E f_X0 0 (v := vI ((x 0) (21 + 5 * i))) (wx_fou (by decide) (by omega) (by omega)) (by decide) wf_X0_9 rfl dX0_become_2 ?_
  refine jx_put E f_X0 0 (wx_fou (by decide) (by omega) (by omega)) (by decide) wf_X0_9 rfl rfl rfl (Nat.le_of_ble_eq_true rfl) (wp_fou0 (by decide) (by omega) (by omega)) dX0_become_5 ?_
  refine jx_aload_n E 0 dX0_become_8 rfl ?_
  refine jx_aload_n E 1 dX0_become_9 rfl ?_
  refine jx_get E f_X0 1 (v := vI ((x 0) (21 + 5 * i + 1))) (wx_fou (by decide) (by omega) (by omega)) (by decide) wf_X0_15 (by first | rfl | (simp only [setc_at, List.getElem?_cons_zero, List.getElem?_cons_succ]; done) | (simp [setc_at]; done)) dX0_become_10 ?_
  refine jx_put E f_X0 1 (wx_fou (by decide) (by omega) (by omega)) (by decide) wf_X0_15 rfl rfl rfl (Nat.le_of_ble_eq_true rfl) (wp_fou1 (by decide) (by omega) (by omega)) dX0_become_13 ?_
  refine jx_eq (ws' := wsX G a (setc x 2 (updI (updI (x 2) (21 + 5 * i) ((x 0) (21 + 5 * i))) (21 + 5 * i + 1) ((x 0) (21 + 5 * i + 1))))) (congrArg (wsX G a) (by first | rfl | (rw [setc_setc]; rfl) | exact setc_in _ _ _ _ (by decide) | exact setc_in2 _ _ _ _ _ (by decide) (by decide) | (simp only [setc_setc, setc_at]; done) | (simp only [setc_setc, setc_at]; rfl) | (funext d; simp only [setc_app]; (repeat' split) <;> first | rfl | omega))) ?_
  refine jx_aload_n E 0 dX0_become_16 rfl ?_
  refine jx_aload_n E 1 dX0_become_17 rfl ?_
  refine jx_get E f_X0 2 (v := vI ((x 0) (21 + 5 * i + 2))) (wx_fou (by decide) (by omega) (by omega)) (by decide) wf_X0_18 (by first | rfl | (simp only [setc_at, List.getElem?_cons_zero, List.getElem?_cons_succ]; done) | (simp [setc_at]; done)) dX0_become_18 ?_
  refine jx_put E f_X0 2 (wx_fou (by decide) (by omega) (by omega)) (by decide) wf_X0_18 rfl rfl rfl (Nat.le_of_ble_eq_true rfl) (wp_fou2 (by decide) (by omega) (by omega)) dX0_become_21 ?_
  refine jx_eq (ws' := wsX G a (setc x 2 (updI (updI (updI (x 2) (21 + 5 * i) ((x 0) (21 + 5 * i))) (21 + 5 * i + 1) ((x 0) (21 + 5 * i + 1))) (21 + 5 * i + 2) ((x 0) (21 + 5 * i + 2))))) (congrArg (wsX G a) (by first | rfl | (rw [setc_setc]; rfl) | exact setc_in _ _ _ _ (by decide) | exact setc_in2 _ _ _ _ _ (by decide) (by decide) | (simp only [setc_setc, setc_at]; done) | (simp only [setc_setc, setc_at]; rfl) | (funext d; simp only [setc_app]; (repeat' split) <;> first | rfl | omega))) ?_
  refine jx_aload_n E 0 dX0_become_24 rfl ?_
  refine jx_aload_n E 1 dX0_become_25 rfl ?_
  refine jx_get E f_X0 3 (v := vI ((x 0) (21 + 5 * i + 3))) (wx_fou (by decide) (by omega) (by omega)) (by decide) wf_X0_21 (by first | rfl | (simp only [setc_at, List.getElem?_cons_zero, List.getElem?_cons_succ]; done) | (simp [setc_at]; done)) dX0_become_26 ?_
  refine jx_put E f_X0 3 (wx_fou (by decide) (by omega) (by omega)) (by decide) wf_X0_21 rfl rfl rfl (Nat.le_of_ble_eq_true rfl) (wp_fou3 (by decide) (by omega) (by omega)) dX0_become_29 ?_
  refine jx_eq (ws' := wsX G a (setc x 2 (updI (updI (updI (updI (x 2) (21 + 5 * i) ((x 0) (21 + 5 * i))) (21 + 5 * i + 1) ((x 0) (21 + 5 * i + 1))) (21 + 5 * i + 2) ((x 0) (21 + 5 * i + 2))) (21 + 5 * i + 3) ((x 0) (21 + 5 * i + 3))))) (congrArg (wsX G a) (by first | rfl | (rw [setc_setc]; rfl) | exact setc_in _ _ _ _ (by decide) | exact setc_in2 _ _ _ _ _ (by decide) (by decide) | (simp only [setc_setc, setc_at]; done) | (simp only [setc_setc, setc_at]; rfl) | (funext d; simp only [setc_app]; (repeat' split) <;> first | rfl | omega))) ?_
  refine jx_aload_n E 0 dX0_become_32 rfl ?_
  refine jx_aload_n E 1 dX0_become_33 rfl ?_
  refine jx_get E f_X0 4 (v := vI ((x 0) (21 + 5 * i + 4))) (wx_fou (by decide) (by omega) (by omega)) (by decide) wf_X0_24 (by first | rfl | (simp only [setc_at, List.getElem?_cons_zero, List.getElem?_cons_succ]; done) | (simp [setc_at]; done)) dX0_become_34 ?_
  refine jx_put E f_X0 4 (wx_fou (by decide) (by omega) (by omega)) (by decide) wf_X0_24 rfl rfl rfl (Nat.le_of_ble_eq_true rfl) (wp_fou4 (by decide) (by omega) (by omega)) dX0_become_37 ?_
  refine jx_eq (ws' := wsX G a (setc x 2 (updI (updI (updI (updI (updI (x 2) (21 + 5 * i) ((x 0) (21 + 5 * i))) (21 + 5 * i + 1) ((x 0) (21 + 5 * i + 1))) (21 + 5 * i + 2) ((x 0) (21 + 5 * i + 2))) (21 + 5 * i + 3) ((x 0) (21 + 5 * i + 3))) (21 + 5 * i + 4) ((x 0) (21 + 5 * i + 4))))) (congrArg (wsX G a) (by first | rfl | (rw [setc_setc]; rfl) | exact setc_in _ _ _ _ (by decide) | exact setc_in2 _ _ _ _ _ (by decide) (by decide) | (simp only [setc_setc, setc_at]; done) | (simp only [setc_setc, setc_at]; rfl) | (funext d; simp only [setc_app]; (repeat' split) <;> first | rfl | omega))) ?_
  exact jx_vret E hr dX0_become_40 (by first | rfl | (congr 1; done))
set_option maxHeartbeats 4000000 in
theorem c_X0_become_02 (l : Launch) (G : GT) (a : Nat → Nat) (x : MS) {i : Int} (h1 : 0 ≤ i ∧ i < 8) : CtV l G yX0_become cX0_become 2 none 1 [.ref (a (5 + 12 * 0 + i.toNat)), .ref (a (5 + 12 * 2 + i.toNat))] (wsX G a x) (wsX G a (setc x 0 (oneP (x 0) (x 2) i))) := by
  refine CtV.of (by decide) (Nat.le_of_ble_eq_true rfl) ?_
  intro p e s m args below meth c A E hr
  refine jx_lv (lv' := [(0, .ref (a (5 + 12 * 0 + i.toNat))), (1, .ref (a (5 + 12 * 2 + i.toNat)))]) [0, 1] rfl ?_
  refine jx_aload_n E 0 dX0_become_0 rfl ?_
  refine jx_aload_n E 1 dX0_become_1 rfl ?_
  refine jx_get E f_X0 0 (v := vI ((x 2) (21 + 5 * i))) (wx_fou (by decide) (by omega) (by omega)) (by decide) wf_X0_9 rfl dX0_become_2 ?_
  refine jx_put E f_X0 0 (wx_fou (by decide) (by omega) (by omega)) (by decide) wf_X0_9 rfl rfl rfl (Nat.le_of_ble_eq_true rfl) (wp_fou0 (by decide) (by omega) (by omega)) dX0_become_5 ?_
  refine jx_aload_n E 0 dX0_become_8 rfl ?_
  refine jx_aload_n E 1 dX0_become_9 rfl ?_
  refine jx_get E f_X0 1 (v := vI ((x 2) (21 + 5 * i + 1))) (wx_fou (by decide) (by omega) (by omega)) (by decide) wf_X0_15 (by first | rfl | (simp only [setc_at, List.getElem?_cons_zero, List.getElem?_cons_succ]; done) | (simp [setc_at]; done)) dX0_become_10 ?_
  refine jx_put E f_X0 1 (wx_fou (by decide) (by omega) (by omega)) (by decide) wf_X0_15 rfl rfl rfl (Nat.le_of_ble_eq_true rfl) (wp_fou1 (by decide) (by omega) (by omega)) dX0_become_13 ?_
  refine jx_eq (ws' := wsX G a (setc x 0 (updI (updI (x 0) (21 + 5 * i) ((x 2) (21 + 5 * i))) (21 + 5 * i + 1) ((x 2) (21 + 5 * i + 1))))) (congrArg (wsX G a) (by first | rfl | (rw [setc_setc]; rfl) | exact setc_in _ _ _ _ (by decide) | exact setc_in2 _ _ _ _ _ (by decide) (by decide) | (simp only [setc_setc, setc_at]; done) | (simp only [setc_setc, setc_at]; rfl) | (funext d; simp only [setc_app]; (repeat' split) <;> first | rfl | omega))) ?_
  refine jx_aload_n E 0 dX0_become_16 rfl ?_
  refine jx_aload_n E 1 dX0_become_17 rfl ?_
  refine jx_get E f_X0 2 (v := vI ((x 2) (21 + 5 * i + 2))) (wx_fou (by decide) (by omega) (by omega)) (by decide) wf_X0_18 (by first | rfl | (simp only [setc_at, List.getElem?_cons_zero, List.getElem?_cons_succ]; done) | (simp [setc_at]; done)) dX0_become_18 ?_
  refine jx_put E f_X0 2 (wx_fou (by decide) (by omega) (by omega)) (by decide) wf_X0_18 rfl rfl rfl (Nat.le_of_ble_eq_true rfl) (wp_fou2 (by decide) (by omega) (by omega)) dX0_become_21 ?_
  refine jx_eq (ws' := wsX G a (setc x 0 (updI (updI (updI (x 0) (21 + 5 * i) ((x 2) (21 + 5 * i))) (21 + 5 * i + 1) ((x 2) (21 + 5 * i + 1))) (21 + 5 * i + 2) ((x 2) (21 + 5 * i + 2))))) (congrArg (wsX G a) (by first | rfl | (rw [setc_setc]; rfl) | exact setc_in _ _ _ _ (by decide) | exact setc_in2 _ _ _ _ _ (by decide) (by decide) | (simp only [setc_setc, setc_at]; done) | (simp only [setc_setc, setc_at]; rfl) | (funext d; simp only [setc_app]; (repeat' split) <;> first | rfl | omega))) ?_
  refine jx_aload_n E 0 dX0_become_24 rfl ?_
  refine jx_aload_n E 1 dX0_become_25 rfl ?_
  refine jx_get E f_X0 3 (v := vI ((x 2) (21 + 5 * i + 3))) (wx_fou (by decide) (by omega) (by omega)) (by decide) wf_X0_21 (by first | rfl | (simp only [setc_at, List.getElem?_cons_zero, List.getElem?_cons_succ]; done) | (simp [setc_at]; done)) dX0_become_26 ?_
  refine jx_put E f_X0 3 (wx_fou (by decide) (by omega) (by omega)) (by decide) wf_X0_21 rfl rfl rfl (Nat.le_of_ble_eq_true rfl) (wp_fou3 (by decide) (by omega) (by omega)) dX0_become_29 ?_
  refine jx_eq (ws' := wsX G a (setc x 0 (updI (updI (updI (updI (x 0) (21 + 5 * i) ((x 2) (21 + 5 * i))) (21 + 5 * i + 1) ((x 2) (21 + 5 * i + 1))) (21 + 5 * i + 2) ((x 2) (21 + 5 * i + 2))) (21 + 5 * i + 3) ((x 2) (21 + 5 * i + 3))))) (congrArg (wsX G a) (by first | rfl | (rw [setc_setc]; rfl) | exact setc_in _ _ _ _ (by decide) | exact setc_in2 _ _ _ _ _ (by decide) (by decide) | (simp only [setc_setc, setc_at]; done) | (simp only [setc_setc, setc_at]; rfl) | (funext d; simp only [setc_app]; (repeat' split) <;> first | rfl | omega))) ?_
  refine jx_aload_n E 0 dX0_become_32 rfl ?_
  refine jx_aload_n E 1 dX0_become_33 rfl ?_
  refine jx_get E f_X0 4 (v := vI ((x 2) (21 + 5 * i + 4))) (wx_fou (by decide) (by omega) (by omega)) (by decide) wf_X0_24 (by first | rfl | (simp only [setc_at, List.getElem?_cons_zero, List.getElem?_cons_succ]; done) | (simp [setc_at]; done)) dX0_become_34 ?_
  refine jx_put E f_X0 4 (wx_fou (by decide) (by omega) (by omega)) (by decide) wf_X0_24 rfl rfl rfl (Nat.le_of_ble_eq_true rfl) (wp_fou4 (by decide) (by omega) (by omega)) dX0_become_37 ?_
  refine jx_eq (ws' := wsX G a (setc x 0 (updI (updI (updI (updI (updI (x 0) (21 + 5 * i) ((x 2) (21 + 5 * i))) (21 + 5 * i + 1) ((x 2) (21 + 5 * i + 1))) (21 + 5 * i + 2) ((x 2) (21 + 5 * i + 2))) (21 + 5 * i + 3) ((x 2) (21 + 5 * i + 3))) (21 + 5 * i + 4) ((x 2) (21 + 5 * i + 4))))) (congrArg (wsX G a) (by first | rfl | (rw [setc_setc]; rfl) | exact setc_in _ _ _ _ (by decide) | exact setc_in2 _ _ _ _ _ (by decide) (by decide) | (simp only [setc_setc, setc_at]; done) | (simp only [setc_setc, setc_at]; rfl) | (funext d; simp only [setc_app]; (repeat' split) <;> first | rfl | omega))) ?_
  exact jx_vret E hr dX0_become_40 (by first | rfl | (congr 1; done))
