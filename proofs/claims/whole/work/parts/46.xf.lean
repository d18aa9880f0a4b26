/-! 46.xf: laid by the walker out of specXF -/
def byP (w : Int → Int) (n k : Int) : Int := if 0 ≤ k ∧ k < n then w k else -1
set_option maxHeartbeats 4000000 in
theorem c_X3_byteAt (l : Launch) (G : GT) (a : Nat → Nat) (x : MS) {k : Int} (h1 : inR k) (h2 : 0 ≤ x 9 1 ∧ x 9 1 ≤ 120) : CtI l G yX3_byteAt cX3_byteAt 2 (some .int) 1 [.ref (a 39), vI k] (wsX G a x) (byP (x 3) ((x 9) 1) k) (wsX G a x) := by
  unfold inR at h1
  refine CtI.of (by decide) (Nat.le_of_ble_eq_true rfl) ?_
  intro p e s m args below meth c A E hr
  refine jx_lv (lv' := [(0, .ref (a 39)), (1, vI k)]) [0, 1] rfl ?_
  refine jx_iload_n E 1 dX3_byteAt_0 rfl ?_
  refine jx_if_lt (tgt := 33) E dX3_byteAt_1 (by decide) (fun c1 => ?_) (fun c1 => ?_)
  · skip
    refine jx_iconst E dX3_byteAt_33 ?_
    exact jx_iret E hr dX3_byteAt_34 (by simp only [byP]; first | (rw [if_pos (by omega)]; done) | (rw [if_neg (by omega)]; done)) (by first | rfl | (congr 1; done))
  · skip
    refine jx_iload_n E 1 dX3_byteAt_4 rfl ?_
    refine jx_aload_n E 0 dX3_byteAt_5 rfl ?_
    refine jx_get E f_X3 0 (v := .ref (a 37)) wx_read (by decide) wf_X3_27 rfl dX3_byteAt_6 ?_
    refine jx_get E f_X2 1 (v := vI ((x 9) 1)) wx_tape (by decide) wf_X3_132 rfl dX3_byteAt_9 ?_
    refine jx_icmp_ge (tgt := 33) E dX3_byteAt_12 (by decide) (fun c2 => ?_) (fun c2 => ?_)
    · skip
      refine jx_iconst E dX3_byteAt_33 ?_
      exact jx_iret E hr dX3_byteAt_34 (by simp only [byP]; first | (rw [if_pos (by omega)]; done) | (rw [if_neg (by omega)]; done)) (by first | rfl | (congr 1; done))
    · skip
      refine jx_iload_n E 1 dX3_byteAt_15 rfl ?_
      refine jx_bipush E dX3_byteAt_16 ?_
      refine jx_icmp_ge (tgt := 33) E dX3_byteAt_18 (by decide) (fun c3 => ?_) (fun c3 => ?_)
      · skip
        refine jx_iconst E dX3_byteAt_33 ?_
        exact jx_iret E hr dX3_byteAt_34 (by simp only [byP]; first | (rw [if_pos (by omega)]; done) | (rw [if_neg (by omega)]; done)) (by first | rfl | (congr 1; done))
      · skip
        refine jx_aload_n E 0 dX3_byteAt_21 rfl ?_
        refine jx_get E f_X3 0 (v := .ref (a 37)) wx_read (by decide) wf_X3_27 rfl dX3_byteAt_22 ?_
        refine jx_get E f_X2 0 (v := .ref (a 38)) wx_tape (by decide) wf_X3_148 rfl dX3_byteAt_25 ?_
        refine jx_iload_n E 1 dX3_byteAt_28 rfl ?_
        refine jx_iald E (v := (x 3) k) wx_byts (row0_at (by omega) (by omega)) (by omega) (by omega) (by decide) dX3_byteAt_29 ?_
        refine jx_goto (tgt := 34) E dX3_byteAt_30 (by decide) ?_
        exact jx_iret E hr dX3_byteAt_34 (by simp only [byP]; first | (rw [if_pos (by omega)]; done) | (rw [if_neg (by omega)]; done)) (by first | rfl | (congr 1; done))
set_option maxHeartbeats 4000000 in
theorem c_X3_isLetter (l : Launch) (G : GT) (ws : va_W) {v : Int} (h1 : inR v) : CtI l G yX3_isLetter cX3_isLetter 1 (some .boolean) 1 [vI v] ws (if 97 ≤ v ∧ v ≤ 122 then 1 else 0) ws := by
  unfold inR at h1
  refine CtI.of (by decide) (Nat.le_of_ble_eq_true rfl) ?_
  intro p e s m args below meth c A E hr
  refine jx_lv (lv' := [(0, vI v)]) [0] rfl ?_
  refine jx_iload_n E 0 dX3_isLetter_0 rfl ?_
  refine jx_bipush E dX3_isLetter_1 ?_
  refine jx_icmp_lt (tgt := 16) E dX3_isLetter_3 (by decide) (fun c1 => ?_) (fun c1 => ?_)
  · skip
    refine jx_iconst E dX3_isLetter_16 ?_
    exact jx_zret E hr dX3_isLetter_17 (by omega) (by first | rfl | (congr 1; done)) (by first | exact Or.inl rfl | exact Or.inr rfl | omega)
  · skip
    refine jx_iload_n E 0 dX3_isLetter_6 rfl ?_
    refine jx_bipush E dX3_isLetter_7 ?_
    refine jx_icmp_gt (tgt := 16) E dX3_isLetter_9 (by decide) (fun c2 => ?_) (fun c2 => ?_)
    · skip
      refine jx_iconst E dX3_isLetter_16 ?_
      exact jx_zret E hr dX3_isLetter_17 (by omega) (by first | rfl | (congr 1; done)) (by first | exact Or.inl rfl | exact Or.inr rfl | omega)
    · skip
      refine jx_iconst E dX3_isLetter_12 ?_
      refine jx_goto (tgt := 17) E dX3_isLetter_13 (by decide) ?_
      exact jx_zret E hr dX3_isLetter_17 (by omega) (by first | rfl | (congr 1; done)) (by first | exact Or.inl rfl | exact Or.inr rfl | omega)
set_option maxHeartbeats 4000000 in
theorem c_X3_isDigit (l : Launch) (G : GT) (ws : va_W) {v : Int} (h1 : inR v) : CtI l G yX3_isDigit cX3_isDigit 1 (some .boolean) 1 [vI v] ws (if 48 ≤ v ∧ v ≤ 57 then 1 else 0) ws := by
  unfold inR at h1
  refine CtI.of (by decide) (Nat.le_of_ble_eq_true rfl) ?_
  intro p e s m args below meth c A E hr
  refine jx_lv (lv' := [(0, vI v)]) [0] rfl ?_
  refine jx_iload_n E 0 dX3_isDigit_0 rfl ?_
  refine jx_bipush E dX3_isDigit_1 ?_
  refine jx_icmp_lt (tgt := 16) E dX3_isDigit_3 (by decide) (fun c1 => ?_) (fun c1 => ?_)
  · skip
    refine jx_iconst E dX3_isDigit_16 ?_
    exact jx_zret E hr dX3_isDigit_17 (by omega) (by first | rfl | (congr 1; done)) (by first | exact Or.inl rfl | exact Or.inr rfl | omega)
  · skip
    refine jx_iload_n E 0 dX3_isDigit_6 rfl ?_
    refine jx_bipush E dX3_isDigit_7 ?_
    refine jx_icmp_gt (tgt := 16) E dX3_isDigit_9 (by decide) (fun c2 => ?_) (fun c2 => ?_)
    · skip
      refine jx_iconst E dX3_isDigit_16 ?_
      exact jx_zret E hr dX3_isDigit_17 (by omega) (by first | rfl | (congr 1; done)) (by first | exact Or.inl rfl | exact Or.inr rfl | omega)
    · skip
      refine jx_iconst E dX3_isDigit_12 ?_
      refine jx_goto (tgt := 17) E dX3_isDigit_13 (by decide) ?_
      exact jx_zret E hr dX3_isDigit_17 (by omega) (by first | rfl | (congr 1; done)) (by first | exact Or.inl rfl | exact Or.inr rfl | omega)
