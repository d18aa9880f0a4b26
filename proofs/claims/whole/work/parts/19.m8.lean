/-! 19.m8: laid by the walker out of specM8 -/
theorem pw8 {k : Nat} (hk : k ≤ 8) : (2 : Int) ^ k ≤ 256 := by
  match k, hk with
  | 0, _ => decide
  | 1, _ => decide
  | 2, _ => decide
  | 3, _ => decide
  | 4, _ => decide
  | 5, _ => decide
  | 6, _ => decide
  | 7, _ => decide
  | 8, _ => decide
theorem stat_sum (u : Int → Int) (w : Int) (h : -1 ≤ w ∧ w ≤ 6) : sumP (fun i => if w < 0 ∨ w = i then u i else 0) 7 = statusR u w := by
  simp only [statusR, if_pos h]
  rcases (show w = -1 ∨ w = 0 ∨ w = 1 ∨ w = 2 ∨ w = 3 ∨ w = 4 ∨ w = 5 ∨ w = 6 by omega) with e | e | e | e | e | e | e | e <;> subst e <;> simp [sumP]
set_option maxHeartbeats 4000000 in
theorem c_X6_read (l : Launch) (G : GT) (b : Nat → Nat) (y : MS) {sh f : Int} (h1 : VT 99999 (y 0)) (h2 : VSM y) (h3 : inR sh) (h4 : inR f) : CtI l G yX6_read cX6_read 6 (some .int) 7 [.ref (b 0), vI sh, vI f] (wsM G b y) (readR (y 5 sh) (y 6 sh) (shM y sh) (y 0) sh f) (wsM G b (endM (if nthR (y 5 sh) sh = 0 ∧ vFou (y 0) f then thinkM y else y) (readR (y 5 sh) (y 6 sh) (shM y sh) (y 0) sh f))) := by
  obtain ⟨-, v4⟩ : True ∧ (0 ≤ y 0 4 ∧ y 0 4 ≤ 8) := ⟨trivial, h1.2.2.2.2.1⟩
  unfold inR at h3 h4
  have hbs : vSheet sh → vBits (y 5 sh) := fun q => (h2 sh q.1 q.2).1
  have hzs : vSheet sh → 0 ≤ y 6 sh ∧ y 6 sh ≤ 40 := fun q => ⟨(h2 sh q.1 q.2).2.1, (h2 sh q.1 q.2).2.2.1⟩
  have hnt := nth_in (y 5 sh) sh
  have hnv : nthR (y 5 sh) sh = 0 → vSheet sh ∧ y 5 sh ≠ 0 := by unfold nthR; omega
  refine CtI.of (by decide) (Nat.le_of_ble_eq_true rfl) ?_
  intro p e s m args below meth c A E hr
  refine jx_lv (lv' := [(0, .ref (b 0)), (1, vI sh), (2, vI f)]) [0, 1, 2] rfl ?_
  refine jx_aload_n E 0 dX6_read_0 rfl ?_
  refine jx_iload_n E 1 dX6_read_1 rfl ?_
  refine jx_callVi E [vI sh] [] (c_X6_notThere l G b y (sh := sh) (by unfold inR; omega) hbs) mb_X6_notThere mv_X6_notThere wl_X6_215 f_X6 wm_obj dX6_read_2 ?_
  refine jx_istore_n E dX6_read_5 (by decide) [(3, vI (nthR ((y 5) sh) sh)), (0, .ref (b 0)), (1, vI sh), (2, vI f)] rfl ?_
  have JN25 : ∀ (u : Int), (u = if nthR (y 5 sh) sh ≠ 0 then nthR (y 5 sh) sh else if vFou (y 0) f then 0 else -1000000001) → JX p l e (rmL 7) s m args below meth c 6 G A 0 0 (QI below args s G A (readR (y 5 sh) (y 6 sh) (shM y sh) (y 0) sh f) (wsM G b (endM (if nthR (y 5 sh) sh = 0 ∧ vFou (y 0) f then thinkM y else y) (readR (y 5 sh) (y 6 sh) (shM y sh) (y 0) sh f)))) (wsM G b y) 25 [(3, vI u), (0, .ref (b 0)), (1, vI sh), (2, vI f)] [] := by
    intro u hu
    refine jx_iload_n E 0 dX6_read_25 rfl ?_
    refine jx_if_eq (tgt := 35) E dX6_read_26 (by decide) (fun c1 => ?_) (fun c1 => ?_)
    · skip
      refine jx_aload_n E 1 dX6_read_35 rfl ?_
      refine jx_callVv E [] [] (c_X6_thinks l G b y  ) mb_X6_thinks mv_X6_thinks wl_X6_134 f_X6 wm_obj dX6_read_36 ?_
      refine jx_eq (ws' := wsM G b (setc (setc y 2 (y 0)) 0 (y 0))) (congrArg (wsM G b) (by first | rfl | (rw [setc_setc]; rfl) | exact setc_in _ _ _ _ (by decide) | exact setc_in2 _ _ _ _ _ (by decide) (by decide) | (simp only [setc_setc, setc_at]; done) | (simp only [setc_setc, setc_at]; rfl) | (funext d; simp only [setc_app]; (repeat' split) <;> first | rfl | omega))) ?_
      refine jx_iconst E dX6_read_39 ?_
      refine jx_istore E dX6_read_40 (by decide) [(4, vI 0), (3, vI u), (0, .ref (b 0)), (1, vI sh), (2, vI f)] rfl ?_
      refine jx_iconst E dX6_read_42 ?_
      refine jx_istore E dX6_read_43 (by decide) [(5, vI 0), (4, vI 0), (3, vI u), (0, .ref (b 0)), (1, vI sh), (2, vI f)] rfl ?_
      have LP45 : ∀ (n2 : Nat) (k : Nat), ((k : Int) ≤ 240) → (240 - (k : Int) < n2) → JX p l e (rmL 7) s m args below meth c 6 G A 0 0 (QI below args s G A (readR (y 5 sh) (y 6 sh) (shM y sh) (y 0) sh f) (wsM G b (endM (if nthR (y 5 sh) sh = 0 ∧ vFou (y 0) f then thinkM y else y) (readR (y 5 sh) (y 6 sh) (shM y sh) (y 0) sh f)))) (wsM G b (setc (setc y 2 (y 0)) 0 (y 0))) 45 [(5, vI (k : Int)), (4, vI (manyP (shM y sh) (y 0) f (y 6 sh) k)), (3, vI u), (0, .ref (b 0)), (1, vI sh), (2, vI f)] [] := by
        intro n2
        induction n2 with
        | zero => intro k q1 q2; exfalso; omega
        | succ n2 ih =>
          intro k q1 q2
          refine jx_iload E 0 dX6_read_45 rfl ?_
          refine jx_sipush E dX6_read_47 ?_
          refine jx_icmp_ge (tgt := 101) E dX6_read_50 (by decide) (fun c2 => ?_) (fun c2 => ?_)
          · skip
            refine jx_iload E 1 dX6_read_101 rfl ?_
            exact jx_iret E hr dX6_read_103 (by simp only [readR]; rw [if_neg (show ¬ nthR (y 5 sh) sh ≠ 0 by omega), if_pos (show vFou (y 0) f by omega), show k = 240 by omega]) (by have hmm := many_in (shM y sh) (y 0) f (y 6 sh) 240; rw [show readR (y 5 sh) (y 6 sh) (shM y sh) (y 0) sh f = manyP (shM y sh) (y 0) f (y 6 sh) 240 from by (simp only [readR]; rw [if_neg (show ¬ nthR (y 5 sh) sh ≠ 0 by omega), if_pos (show vFou (y 0) f by omega)]), if_pos (show nthR (y 5 sh) sh = 0 ∧ vFou (y 0) f by omega), endM_n (by omega)]; rfl)
          · skip
            refine jx_aload_n E 3 dX6_read_53 rfl ?_
            refine jx_iload_n E 5 dX6_read_54 rfl ?_
            refine jx_iconst E dX6_read_55 ?_
            refine jx_iload E 0 dX6_read_56 rfl ?_
            refine jx_bipush E dX6_read_58 ?_
            refine jx_idivp E dX6_read_60 ?_
            refine jx_callVv E [vI f, vI 0, vI ((k : Int) / 40)] [] (c_X6_put l G b (setc (setc y 2 (y 0)) 0 (y 0)) (f := f) (what := 0) (v := (k : Int) / 40) (by omega) (by omega) (by omega) (by omega)) mb_X6_put mv_X6_put wl_X6_86 f_X6 wm_obj dX6_read_61 ?_
            refine jx_eq (ws' := wsM G b (setc (setc y 2 (y 0)) 0 (updI (y 0) (21 + 5 * f) ((k : Int) / 40)))) (congrArg (wsM G b) (by simp only [Int.add_zero]; first | done | rfl | (rw [setc_setc]; rfl) | (simp only [setc_setc, setc_at]; done))) ?_
            refine jx_aload_n E 3 dX6_read_64 rfl ?_
            refine jx_iload_n E 5 dX6_read_65 rfl ?_
            refine jx_iconst E dX6_read_66 ?_
            refine jx_iconst E dX6_read_67 ?_
            refine jx_iload E 0 dX6_read_68 rfl ?_
            refine jx_bipush E dX6_read_70 ?_
            refine jx_iremp E dX6_read_72 ?_
            refine jx_iadd E dX6_read_73 ?_
            refine jx_callVv E [vI f, vI 1, vI (1 + ((k : Int) % 40))] [] (c_X6_put l G b (setc (setc y 2 (y 0)) 0 (updI (y 0) (21 + 5 * f) ((k : Int) / 40))) (f := f) (what := 1) (v := 1 + ((k : Int) % 40)) (by omega) (by omega) (by omega) (by omega)) mb_X6_put mv_X6_put wl_X6_86 f_X6 wm_obj dX6_read_74 ?_
            refine jx_eq (ws' := wsM G b (setc (setc y 2 (y 0)) 0 (updI (updI (y 0) (21 + 5 * f) ((k : Int) / 40)) (21 + 5 * f + 1) (1 + ((k : Int) % 40))))) (congrArg (wsM G b) (by first | rfl | (rw [setc_setc]; rfl) | exact setc_in _ _ _ _ (by decide) | exact setc_in2 _ _ _ _ _ (by decide) (by decide) | (simp only [setc_setc, setc_at]; done) | (simp only [setc_setc, setc_at]; rfl) | (funext d; simp only [setc_app]; (repeat' split) <;> first | rfl | omega))) ?_
            have JN92 : ∀ (z9 : Int), (z9 = bkF (shM y sh) (asP (y 0) f (k : Int)) (y 6 sh).toNat) → JX p l e (rmL 7) s m args below meth c 6 G A 0 0 (QI below args s G A (readR (y 5 sh) (y 6 sh) (shM y sh) (y 0) sh f) (wsM G b (endM (if nthR (y 5 sh) sh = 0 ∧ vFou (y 0) f then thinkM y else y) (readR (y 5 sh) (y 6 sh) (shM y sh) (y 0) sh f)))) (wsM G b (setc (setc y 2 (y 0)) 0 (y 0))) 92 [(5, vI (k : Int)), (4, vI (manyP (shM y sh) (y 0) f (y 6 sh) k)), (3, vI u), (0, .ref (b 0)), (1, vI sh), (2, vI f)] [vI z9, vI (manyP (shM y sh) (y 0) f (y 6 sh) k)] := by
              intro z9 hu
              refine jx_iadd E dX6_read_92 ?_
              refine jx_istore E dX6_read_93 (by decide) [(4, vI ((manyP (shM y sh) (y 0) f (y 6 sh) k) + z9)), (5, vI (k : Int)), (3, vI u), (0, .ref (b 0)), (1, vI sh), (2, vI f)] rfl ?_
              refine jx_iinc E 1 dX6_read_95 rfl (by decide) [(5, vI ((k : Int) + 1)), (4, vI ((manyP (shM y sh) (y 0) f (y 6 sh) k) + z9)), (3, vI u), (0, .ref (b 0)), (1, vI sh), (2, vI f)] rfl ?_
              refine jx_goto (tgt := 45) E dX6_read_98 (by decide) ?_
              subst hu
              exact ih (k + 1) (by omega) (by omega)
            refine jx_iload E 1 dX6_read_77 rfl ?_
            refine jx_aload_n E 3 dX6_read_79 rfl ?_
            refine jx_iload_n E 4 dX6_read_80 rfl ?_
            refine jx_callVi E [vI sh] [vI (manyP (shM y sh) (y 0) f (y 6 sh) k)] (c_X6_isBook l G b (setc (setc y 2 (y 0)) 0 (updI (updI (y 0) (21 + 5 * f) ((k : Int) / 40)) (21 + 5 * f + 1) (1 + ((k : Int) % 40)))) (sh := sh) (VT_up (VT_as h1 (f := f) (k := (k : Int)) (by omega) (by omega)) (by omega)) (by omega) (h2 sh (by omega) (by omega))) mb_X6_isBook mv_X6_isBook wl_X6_226 f_X6 wm_obj dX6_read_81 ?_
            refine jx_eq (ws' := wsM G b (setc (setc y 2 (y 0)) 0 (y 0))) (congrArg (wsM G b) (by first | rfl | (rw [setc_setc]; rfl) | exact setc_in _ _ _ _ (by decide) | exact setc_in2 _ _ _ _ _ (by decide) (by decide) | (simp only [setc_setc, setc_at]; done) | (simp only [setc_setc, setc_at]; rfl) | (funext d; simp only [setc_app]; (repeat' split) <;> first | rfl | omega))) ?_
            refine jx_st (st' := [vI (bkF (fun k => (y 7) (40 * sh + k)) (updI (updI (y 0) (21 + 5 * f) ((k : Int) / 40)) (21 + 5 * f + 1) (1 + ((k : Int) % 40))) ((y 6) sh).toNat), vI (manyP (shM y sh) (y 0) f (y 6 sh) k)]) (by first | rfl | (simp only [setc_at]; done) | (simp only [setc_at]; rfl)) ?_
            have hbb : bkF (fun k => y 7 (40 * sh + k)) (updI (updI (y 0) (21 + 5 * f) ((k : Int) / 40)) (21 + 5 * f + 1) (1 + (k : Int) % 40)) (y 6 sh).toNat = 0 ∨ bkF (fun k => y 7 (40 * sh + k)) (updI (updI (y 0) (21 + 5 * f) ((k : Int) / 40)) (21 + 5 * f + 1) (1 + (k : Int) % 40)) (y 6 sh).toNat = 1 := bk_in _ _ _
            have cb : bkF (fun k => y 7 (40 * sh + k)) (updI (updI (y 0) (21 + 5 * f) ((k : Int) / 40)) (21 + 5 * f + 1) (1 + (k : Int) % 40)) (y 6 sh).toNat = bkF (shM y sh) (asP (y 0) f (k : Int)) (y 6 sh).toNat := rfl
            refine jx_if_eq (tgt := 91) E dX6_read_84 (by decide) (fun c3 => ?_) (fun c3 => ?_)
            · skip
              refine jx_iconst E dX6_read_91 ?_
              exact JN92 _ (by omega)
            · skip
              refine jx_iconst E dX6_read_87 ?_
              refine jx_goto (tgt := 92) E dX6_read_88 (by decide) ?_
              exact JN92 _ (by omega)
      exact LP45 241 0 (by omega) (by omega)
    · skip
      refine jx_aload_n E 1 dX6_read_29 rfl ?_
      refine jx_iload_n E 0 dX6_read_30 rfl ?_
      refine jx_callVi E [vI u] [] (c_X6_finds l G b y (f := u) (by omega)) mb_X6_finds mv_X6_finds wl_X6_37 f_X6 wm_obj dX6_read_31 ?_
      exact jx_iret E hr dX6_read_34 (by simp only [readR]; omega) (by rw [show readR (y 5 sh) (y 6 sh) (shM y sh) (y 0) sh f = u from by simp only [readR]; omega, if_neg (show ¬ (nthR (y 5 sh) sh = 0 ∧ vFou (y 0) f) by omega), endM_f (by omega)])
  refine jx_iload_n E 0 dX6_read_6 rfl ?_
  refine jx_if_ne (tgt := 23) E dX6_read_7 (by decide) (fun c4 => ?_) (fun c4 => ?_)
  · skip
    refine jx_iload_n E 0 dX6_read_23 rfl ?_
    refine jx_istore_n E dX6_read_24 (by decide) [(3, vI (nthR ((y 5) sh) sh)), (0, .ref (b 0)), (1, vI sh), (2, vI f)] rfl ?_
    exact JN25 _ (by omega)
  · skip
    refine jx_aload_n E 1 dX6_read_10 rfl ?_
    refine jx_iload_n E 3 dX6_read_11 rfl ?_
    refine jx_callVi E [vI f] [] (c_X6_isFountain l G b y (f := f) (by unfold inR; omega) (by omega)) mb_X6_isFountain mv_X6_isFountain wl_X6_95 f_X6 wm_obj dX6_read_12 ?_
    refine jx_if_ne (tgt := 23) E dX6_read_15 (by decide) (fun c5 => ?_) (fun c5 => ?_)
    · skip
      refine jx_iload_n E 0 dX6_read_23 rfl ?_
      refine jx_istore_n E dX6_read_24 (by decide) [(3, vI (nthR ((y 5) sh) sh)), (0, .ref (b 0)), (1, vI sh), (2, vI f)] rfl ?_
      exact JN25 _ (by omega)
    · skip
      refine jx_ldc E wc_X6_35 dX6_read_18 ?_
      refine jx_goto (tgt := 24) E dX6_read_20 (by decide) ?_
      refine jx_istore_n E dX6_read_24 (by decide) [(3, vI (-1000000001)), (0, .ref (b 0)), (1, vI sh), (2, vI f)] rfl ?_
      exact JN25 _ (by omega)
set_option maxHeartbeats 4000000 in
theorem c_X6_image (l : Launch) (G : GT) (b : Nat → Nat) (y : MS) : CtI l G yX6_image cX6_image 1 (some .int) 2 [.ref (b 0)] (wsM G b y) 1 (wsM G b (setc (setc y 1 (y 0)) 8 (updI (y 8) 0 1))) := by
  refine CtI.of (by decide) (Nat.le_of_ble_eq_true rfl) ?_
  intro p e s m args below meth c A E hr
  refine jx_lv (lv' := [(0, .ref (b 0))]) [0] rfl ?_
  refine jx_aload_n E 0 dX6_image_0 rfl ?_
  refine jx_get E f_X6 0 (v := .ref (b 1)) wm_obj (by decide) wf_X6_9 rfl dX6_image_1 ?_
  refine jx_aload_n E 0 dX6_image_4 rfl ?_
  refine jx_get E f_X6 1 (v := .ref (b 2)) wm_obj (by decide) wf_X6_13 rfl dX6_image_5 ?_
  refine jx_callSv E [.ref (b 1), .ref (b 2)] [] (c_X6_copyAll_m_kept l G b y  ) mb_X6_copyAll ms_X6_copyAll wl_X6_130 dX6_image_8 ?_
  refine jx_aload_n E 0 dX6_image_11 rfl ?_
  refine jx_iconst E dX6_image_12 ?_
  refine jx_put E f_X6 3 wm_obj (by decide) wf_X6_229 rfl (by first | rfl | exact narZ (by omega)) (by first | rfl | exact fitZ (by omega)) (Nat.le_of_ble_eq_true rfl) wq_obj3 dX6_image_13 ?_
  refine jx_iconst E dX6_image_16 ?_
  exact jx_iret E hr dX6_image_17 (by first | rfl | omega) (by first | rfl | (congr 1; done))
set_option maxHeartbeats 4000000 in
theorem c_X6_undo (l : Launch) (G : GT) (b : Nat → Nat) (y : MS) (h1 : y 8 0 = 0 ∨ y 8 0 = 1) (h2 : y 8 0 = 1 → 0 ≤ y 1 4) : CtI l G yX6_undo cX6_undo 1 (some .int) 2 [.ref (b 0)] (wsM G b y) (if y 8 0 = 0 then -1000000004 else y 1 4) (wsM G b (if y 8 0 = 0 then setc y 3 (tallyP (y 3) (-1000000004)) else setc y 0 (y 1))) := by
  refine CtI.of (by decide) (Nat.le_of_ble_eq_true rfl) ?_
  intro p e s m args below meth c A E hr
  refine jx_lv (lv' := [(0, .ref (b 0))]) [0] rfl ?_
  refine jx_aload_n E 0 dX6_undo_0 rfl ?_
  refine jx_get E f_X6 3 (v := vI ((y 8) 0)) wm_obj (by decide) wf_X6_229 rfl dX6_undo_1 ?_
  refine jx_if_ne (tgt := 14) E dX6_undo_4 (by decide) (fun c1 => ?_) (fun c1 => ?_)
  · skip
    refine jx_aload_n E 0 dX6_undo_14 rfl ?_
    refine jx_get E f_X6 1 (v := .ref (b 2)) wm_obj (by decide) wf_X6_13 rfl dX6_undo_15 ?_
    refine jx_aload_n E 0 dX6_undo_18 rfl ?_
    refine jx_get E f_X6 0 (v := .ref (b 1)) wm_obj (by decide) wf_X6_9 rfl dX6_undo_19 ?_
    refine jx_callSv E [.ref (b 2), .ref (b 1)] [] (c_X6_copyAll_kept_m l G b y  ) mb_X6_copyAll ms_X6_copyAll wl_X6_130 dX6_undo_22 ?_
    refine jx_aload_n E 0 dX6_undo_25 rfl ?_
    refine jx_get E f_X6 0 (v := .ref (b 1)) wm_obj (by decide) wf_X6_9 rfl dX6_undo_26 ?_
    refine jx_iconst E dX6_undo_29 ?_
    refine jx_iald E (v := (y 1) 4) wm_m (row0_at (by omega) (by omega)) (by omega) (by omega) (by decide) dX6_undo_30 ?_
    exact jx_iret E hr dX6_undo_31 (by first | (rw [if_pos (by omega)]; done) | (rw [if_neg (by omega)]; done)) (by first | (rw [if_pos (by omega)]; done) | (rw [if_neg (by omega)]; done))
  · skip
    refine jx_aload_n E 0 dX6_undo_7 rfl ?_
    refine jx_ldc E wc_X6_36 dX6_undo_8 ?_
    refine jx_callVi E [vI (-1000000004)] [] (c_X6_finds l G b y (f := (-1000000004)) (by omega)) mb_X6_finds mv_X6_finds wl_X6_37 f_X6 wm_obj dX6_undo_10 ?_
    exact jx_iret E hr dX6_undo_13 (by first | (rw [if_pos (by omega)]; done) | (rw [if_neg (by omega)]; done)) (by first | (rw [if_pos (by omega)]; done) | (rw [if_neg (by omega)]; done))
set_option maxHeartbeats 4000000 in
theorem c_X6_tear (l : Launch) (G : GT) (b : Nat → Nat) (y : MS) (h1 : y 8 0 = 0 ∨ y 8 0 = 1) : CtI l G yX6_tear cX6_tear 2 (some .int) 1 [.ref (b 0)] (wsM G b y) (y 8 0) (wsM G b (setc y 8 (updI (y 8) 0 0))) := by
  refine CtI.of (by decide) (Nat.le_of_ble_eq_true rfl) ?_
  intro p e s m args below meth c A E hr
  refine jx_lv (lv' := [(0, .ref (b 0))]) [0] rfl ?_
  refine jx_aload_n E 0 dX6_tear_0 rfl ?_
  refine jx_get E f_X6 3 (v := vI ((y 8) 0)) wm_obj (by decide) wf_X6_229 rfl dX6_tear_1 ?_
  refine jx_if_eq (tgt := 11) E dX6_tear_4 (by decide) (fun c1 => ?_) (fun c1 => ?_)
  · skip
    refine jx_iconst E dX6_tear_11 ?_
    refine jx_istore_n E dX6_tear_12 (by decide) [(1, vI 0), (0, .ref (b 0))] rfl ?_
    refine jx_aload_n E 1 dX6_tear_13 rfl ?_
    refine jx_iconst E dX6_tear_14 ?_
    refine jx_put E f_X6 3 wm_obj (by decide) wf_X6_229 rfl (by first | rfl | exact narZ (by omega)) (by first | rfl | exact fitZ (by omega)) (Nat.le_of_ble_eq_true rfl) wq_obj3 dX6_tear_15 ?_
    refine jx_iload_n E 0 dX6_tear_18 rfl ?_
    exact jx_iret E hr dX6_tear_19 (by omega) (by first | rfl | (congr 1; done))
  · skip
    refine jx_iconst E dX6_tear_7 ?_
    refine jx_goto (tgt := 12) E dX6_tear_8 (by decide) ?_
    refine jx_istore_n E dX6_tear_12 (by decide) [(1, vI 1), (0, .ref (b 0))] rfl ?_
    refine jx_aload_n E 1 dX6_tear_13 rfl ?_
    refine jx_iconst E dX6_tear_14 ?_
    refine jx_put E f_X6 3 wm_obj (by decide) wf_X6_229 rfl (by first | rfl | exact narZ (by omega)) (by first | rfl | exact fitZ (by omega)) (Nat.le_of_ble_eq_true rfl) wq_obj3 dX6_tear_15 ?_
    refine jx_iload_n E 0 dX6_tear_18 rfl ?_
    exact jx_iret E hr dX6_tear_19 (by omega) (by first | rfl | (congr 1; done))
set_option maxHeartbeats 4000000 in
theorem c_X6_count (l : Launch) (G : GT) (b : Nat → Nat) (y : MS) {w : Int} (h1 : VT 99999 (y 0)) (h2 : inR w) (h3 : 0 ≤ y 8 1 ∧ y 8 1 ≤ 120) : CtI l G yX6_count cX6_count 2 (some .int) 3 [.ref (b 0), vI w] (wsM G b y) (countR (y 0) (y 8 1) w) (wsM G b (endM y (countR (y 0) (y 8 1) w))) := by
  obtain ⟨v0, v1, v2, v3, v4, v5, v6, v7⟩ := id h1
  unfold inR at h2
  have hvv : VV (y 0) := VT_up h1 (by omega)
  have ho := offsN_in (t := y 0) (y 0 4).toNat (fun i a b => (v7 i a (by omega)).2.2.1)
  have hst := stooped_in h1
  have hp8 : (2 : Int) ^ (y 0 4).toNat ≤ 256 := pw8 (by omega)
  have hpp := pop_in (s := offsN (y 0) (y 0 4).toNat) (by omega)
  refine CtI.of (by decide) (Nat.le_of_ble_eq_true rfl) ?_
  intro p e s m args below meth c A E hr
  refine jx_lv (lv' := [(0, .ref (b 0)), (1, vI w)]) [0, 1] rfl ?_
  refine jx_iload_n E 1 dX6_count_0 rfl ?_
  rcases (show w = 0 ∨ w = 1 ∨ w = 2 ∨ w = 3 ∨ (w < 0 ∨ 3 < w) by omega) with c1 | c1 | c1 | c1 | c1
  · skip
    refine jx_tabIn (tgt := 32) (off := 31) E 0 dX6_count_1 c1 (by unfold inR; decide) (by rfl) (by decide) ?_
    refine jx_aload_n E 0 dX6_count_32 rfl ?_
    refine jx_get E f_X6 0 (v := .ref (b 1)) wm_obj (by decide) wf_X6_9 rfl dX6_count_33 ?_
    refine jx_iconst E dX6_count_36 ?_
    refine jx_iald E (v := (y 0) 4) wm_m (row0_at (by omega) (by omega)) (by omega) (by omega) (by decide) dX6_count_37 ?_
    exact jx_iret E hr dX6_count_38 (by simp only [countR]; omega) (by rw [show countR (y 0) (y 8 1) w = (y 0) 4 from by simp only [countR]; omega, endM_n (by omega)])
  · skip
    refine jx_tabIn (tgt := 39) (off := 38) E 1 dX6_count_1 c1 (by unfold inR; decide) (by rfl) (by decide) ?_
    refine jx_aload_n E 0 dX6_count_39 rfl ?_
    refine jx_get E f_X6 6 (v := vI ((y 8) 1)) wm_obj (by decide) wf_X6_153 rfl dX6_count_40 ?_
    exact jx_iret E hr dX6_count_43 (by simp only [countR]; omega) (by rw [show countR (y 0) (y 8 1) w = (y 8) 1 from by simp only [countR]; omega, endM_n (by omega)])
  · skip
    refine jx_tabIn (tgt := 44) (off := 43) E 2 dX6_count_1 c1 (by unfold inR; decide) (by rfl) (by decide) ?_
    refine jx_aload_n E 0 dX6_count_44 rfl ?_
    refine jx_callVi E [] [] (c_X6_offOnes l G b y  hvv) mb_X6_offOnes mv_X6_offOnes wl_X6_77 f_X6 wm_obj dX6_count_45 ?_
    refine jx_callSi E [vI (offsN (y 0) ((y 0) 4).toNat)] [] (c_X6_bits l G (wsM G b y) (w := offsN (y 0) ((y 0) 4).toNat) (by omega)) mb_X6_bits ms_X6_bits wl_X6_232 dX6_count_48 ?_
    exact jx_iret E hr dX6_count_51 (by simp only [countR]; omega) (by rw [show countR (y 0) (y 8 1) w = popP (offsN (y 0) ((y 0) 4).toNat) from by simp only [countR]; omega, endM_n (by omega)])
  · skip
    refine jx_tabIn (tgt := 52) (off := 51) E 3 dX6_count_1 c1 (by unfold inR; decide) (by rfl) (by decide) ?_
    refine jx_aload_n E 0 dX6_count_52 rfl ?_
    refine jx_callVi E [] [] (c_X6_allStooped l G b y  hvv) mb_X6_allStooped mv_X6_allStooped wl_X6_143 f_X6 wm_obj dX6_count_53 ?_
    exact jx_iret E hr dX6_count_56 (by simp only [countR]; omega) (by rw [show countR (y 0) (y 8 1) w = stoopedP (y 0) from by simp only [countR]; omega, endM_n (by omega)])
  · skip
    refine jx_tabOut (tgt := 57) E dX6_count_1 c1 (by decide) ?_
    refine jx_aload_n E 0 dX6_count_57 rfl ?_
    refine jx_ldc E wc_X6_35 dX6_count_58 ?_
    refine jx_callVi E [vI (-1000000001)] [] (c_X6_finds l G b y (f := (-1000000001)) (by omega)) mb_X6_finds mv_X6_finds wl_X6_37 f_X6 wm_obj dX6_count_60 ?_
    exact jx_iret E hr dX6_count_63 (by simp only [countR]; omega) (by rw [show countR (y 0) (y 8 1) w = (-1000000001) from by simp only [countR]; omega, endM_f (by decide)])
set_option maxHeartbeats 4000000 in
theorem c_X6_status (l : Launch) (G : GT) (b : Nat → Nat) (y : MS) {w : Int} (h1 : inR w) : CtI l G yX6_status cX6_status 4 (some .int) 2 [.ref (b 0), vI w] (wsM G b y) (statusR (y 3) w) (wsM G b (if -1 ≤ w ∧ w ≤ 6 then y else setc y 3 (tallyP (y 3) (-1000000001)))) := by
  unfold inR at h1
  refine CtI.of (by decide) (Nat.le_of_ble_eq_true rfl) ?_
  intro p e s m args below meth c A E hr
  refine jx_lv (lv' := [(0, .ref (b 0)), (1, vI w)]) [0, 1] rfl ?_
  refine jx_iload_n E 1 dX6_status_0 rfl ?_
  refine jx_i2l E dX6_status_1 ?_
  refine jx_iconst E dX6_status_2 ?_
  refine jx_bipush E dX6_status_3 ?_
  refine jx_callSi E [vL w, vI (-1), vI 6] [] (c_X6_in l G (wsM G b y) (v := w) (lo := (-1)) (hi := 6) (by unfold inL; omega) (by unfold inR; omega) (by unfold inR; omega)) mb_X6_in ms_X6_in wl_X6_41 dX6_status_5 ?_
  refine jx_if_ne (tgt := 18) E dX6_status_8 (by decide) (fun c1 => ?_) (fun c1 => ?_)
  · skip
    refine jx_iconst E dX6_status_18 ?_
    refine jx_istore_n E dX6_status_19 (by decide) [(2, vI 0), (0, .ref (b 0)), (1, vI w)] rfl ?_
    refine jx_iconst E dX6_status_20 ?_
    refine jx_istore_n E dX6_status_21 (by decide) [(3, vI 0), (2, vI 0), (0, .ref (b 0)), (1, vI w)] rfl ?_
    have LP22 : ∀ (n2 : Nat) (k : Nat), ((k : Int) ≤ 7) → (7 - (k : Int) < n2) → JX p l e (rmL 2) s m args below meth c 4 G A 0 0 (QI below args s G A (statusR (y 3) w) (wsM G b (if -1 ≤ w ∧ w ≤ 6 then y else setc y 3 (tallyP (y 3) (-1000000001))))) (wsM G b y) 22 [(3, vI (k : Int)), (2, vI (sumP (fun i => if w < 0 ∨ w = i then y 3 i else 0) k)), (0, .ref (b 0)), (1, vI w)] [] := by
      intro n2
      induction n2 with
      | zero => intro k q1 q2; exfalso; omega
      | succ n2 ih =>
        intro k q1 q2
        refine jx_iload_n E 0 dX6_status_22 rfl ?_
        refine jx_bipush E dX6_status_23 ?_
        refine jx_icmp_ge (tgt := 56) E dX6_status_25 (by decide) (fun c2 => ?_) (fun c2 => ?_)
        · skip
          refine jx_iload_n E 1 dX6_status_56 rfl ?_
          exact jx_iret E hr dX6_status_57 (by rw [show k = 7 by omega]; exact stat_sum (y 3) w (by omega)) (by rw [if_pos (by omega)])
        · skip
          have JN48 : ∀ (u : Int), (u = if w < 0 ∨ w = (k : Int) then y 3 (k : Int) else 0) → JX p l e (rmL 2) s m args below meth c 4 G A 0 0 (QI below args s G A (statusR (y 3) w) (wsM G b (if -1 ≤ w ∧ w ≤ 6 then y else setc y 3 (tallyP (y 3) (-1000000001))))) (wsM G b y) 48 [(3, vI (k : Int)), (2, vI (sumP (fun i => if w < 0 ∨ w = i then y 3 i else 0) k)), (0, .ref (b 0)), (1, vI w)] [vI u, vI (sumP (fun i => if w < 0 ∨ w = i then y 3 i else 0) k)] := by
            intro u hu
            refine jx_iadd E dX6_status_48 ?_
            refine jx_istore_n E dX6_status_49 (by decide) [(2, vI ((sumP (fun i => if w < 0 ∨ w = i then y 3 i else 0) k) + u)), (3, vI (k : Int)), (0, .ref (b 0)), (1, vI w)] rfl ?_
            refine jx_iinc E 1 dX6_status_50 rfl (by decide) [(3, vI ((k : Int) + 1)), (2, vI ((sumP (fun i => if w < 0 ∨ w = i then y 3 i else 0) k) + u)), (0, .ref (b 0)), (1, vI w)] rfl ?_
            refine jx_goto (tgt := 22) E dX6_status_53 (by decide) ?_
            subst hu
            exact ih (k + 1) (by omega) (by omega)
          refine jx_iload_n E 1 dX6_status_28 rfl ?_
          refine jx_iload_n E 3 dX6_status_29 rfl ?_
          refine jx_if_lt (tgt := 38) E dX6_status_30 (by decide) (fun c3 => ?_) (fun c3 => ?_)
          · skip
            refine jx_aload_n E 2 dX6_status_38 rfl ?_
            refine jx_get E f_X6 4 (v := .ref (b 4)) wm_obj (by decide) wf_X6_19 rfl dX6_status_39 ?_
            refine jx_iload_n E 0 dX6_status_42 rfl ?_
            refine jx_iald E (v := (y 3) (k : Int)) wm_found (row0_at (by omega) (by omega)) (by omega) (by omega) (by decide) dX6_status_43 ?_
            refine jx_goto (tgt := 48) E dX6_status_44 (by decide) ?_
            exact JN48 _ (by omega)
          · skip
            refine jx_iload_n E 3 dX6_status_33 rfl ?_
            refine jx_iload_n E 0 dX6_status_34 rfl ?_
            refine jx_icmp_ne (tgt := 47) E dX6_status_35 (by decide) (fun c4 => ?_) (fun c4 => ?_)
            · skip
              refine jx_iconst E dX6_status_47 ?_
              exact JN48 _ (by omega)
            · skip
              refine jx_aload_n E 2 dX6_status_38 rfl ?_
              refine jx_get E f_X6 4 (v := .ref (b 4)) wm_obj (by decide) wf_X6_19 rfl dX6_status_39 ?_
              refine jx_iload_n E 0 dX6_status_42 rfl ?_
              refine jx_iald E (v := (y 3) (k : Int)) wm_found (row0_at (by omega) (by omega)) (by omega) (by omega) (by decide) dX6_status_43 ?_
              refine jx_goto (tgt := 48) E dX6_status_44 (by decide) ?_
              exact JN48 _ (by omega)
    exact LP22 8 0 (by omega) (by omega)
  · skip
    refine jx_aload_n E 0 dX6_status_11 rfl ?_
    refine jx_ldc E wc_X6_35 dX6_status_12 ?_
    refine jx_callVi E [vI (-1000000001)] [] (c_X6_finds l G b y (f := (-1000000001)) (by omega)) mb_X6_finds mv_X6_finds wl_X6_37 f_X6 wm_obj dX6_status_14 ?_
    exact jx_iret E hr dX6_status_17 (by simp only [statusR]; rw [if_neg (by omega)]) (by rw [if_neg (by omega)])
