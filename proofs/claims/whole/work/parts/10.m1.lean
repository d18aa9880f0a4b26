/-! 10.m1: laid by the walker out of specM1 -/
set_option maxHeartbeats 4000000 in
theorem c_X6_it (l : Launch) (G : GT) (b : Nat → Nat) (y : MS) {f what : Int} (h1 : 0 ≤ f) (h2 : f < 8) (h3 : 0 ≤ what) (h4 : what < 5) : CtI l G yX6_it cX6_it 3 (some .int) 1 [.ref (b 0), vI f, vI what] (wsM G b y) ((y 0) (21 + 5 * f + what)) (wsM G b y) := by
  refine CtI.of (by decide) (Nat.le_of_ble_eq_true rfl) ?_
  intro p e s m args below meth c A E hr
  refine jx_lv (lv' := [(0, .ref (b 0)), (1, vI f), (2, vI what)]) [0, 1, 2] rfl ?_
  refine jx_aload_n E 0 dX6_it_0 rfl ?_
  refine jx_get E f_X6 0 (v := .ref (b 1)) wm_obj (by decide) wf_X6_9 rfl dX6_it_1 ?_
  refine jx_bipush E dX6_it_4 ?_
  refine jx_iconst E dX6_it_6 ?_
  refine jx_iload_n E 1 dX6_it_7 rfl ?_
  refine jx_imul E dX6_it_8 ?_
  refine jx_iadd E dX6_it_9 ?_
  refine jx_iload_n E 2 dX6_it_10 rfl ?_
  refine jx_iadd E dX6_it_11 ?_
  refine jx_iald E (v := (y 0) ((21 + (5 * f)) + what)) wm_m (row0_at (by omega) (by omega)) (by omega) (by omega) (by decide) dX6_it_12 ?_
  exact jx_iret E hr dX6_it_13 (by first | rfl | omega) (by first | rfl | (congr 1; done))
set_option maxHeartbeats 4000000 in
theorem c_X6_put (l : Launch) (G : GT) (b : Nat → Nat) (y : MS) {f what v : Int} (h1 : 0 ≤ f) (h2 : f < 8) (h3 : 0 ≤ what) (h4 : what < 5) : CtV l G yX6_put cX6_put 4 none 1 [.ref (b 0), vI f, vI what, vI v] (wsM G b y) (wsM G b (setc y 0 (updI (y 0) (21 + 5 * f + what) v))) := by
  refine CtV.of (by decide) (Nat.le_of_ble_eq_true rfl) ?_
  intro p e s m args below meth c A E hr
  refine jx_lv (lv' := [(0, .ref (b 0)), (1, vI f), (2, vI what), (3, vI v)]) [0, 1, 2, 3] rfl ?_
  refine jx_aload_n E 0 dX6_put_0 rfl ?_
  refine jx_get E f_X6 0 (v := .ref (b 1)) wm_obj (by decide) wf_X6_9 rfl dX6_put_1 ?_
  refine jx_bipush E dX6_put_4 ?_
  refine jx_iconst E dX6_put_6 ?_
  refine jx_iload_n E 1 dX6_put_7 rfl ?_
  refine jx_imul E dX6_put_8 ?_
  refine jx_iadd E dX6_put_9 ?_
  refine jx_iload_n E 2 dX6_put_10 rfl ?_
  refine jx_iadd E dX6_put_11 ?_
  refine jx_iload_n E 3 dX6_put_12 rfl ?_
  refine jx_iast E wm_m (wq_m (by omega) (by omega)) (by omega) (by omega) (by decide) dX6_put_13 ?_
  exact jx_vret E hr dX6_put_14 (by first | rfl | (congr 1; done))
set_option maxHeartbeats 4000000 in
theorem c_X6_weekNow (l : Launch) (G : GT) (b : Nat → Nat) (y : MS) (h1 : 0 ≤ y 0 0 ∧ y 0 0 ≤ 2000000) : CtI l G yX6_weekNow cX6_weekNow 1 (some .int) 1 [.ref (b 0)] (wsM G b y) (weekP (y 0)) (wsM G b y) := by
  refine CtI.of (by decide) (Nat.le_of_ble_eq_true rfl) ?_
  intro p e s m args below meth c A E hr
  refine jx_lv (lv' := [(0, .ref (b 0))]) [0] rfl ?_
  refine jx_aload_n E 0 dX6_weekNow_0 rfl ?_
  refine jx_get E f_X6 0 (v := .ref (b 1)) wm_obj (by decide) wf_X6_9 rfl dX6_weekNow_1 ?_
  refine jx_iconst E dX6_weekNow_4 ?_
  refine jx_iald E (v := (y 0) 0) wm_m (row0_at (by omega) (by omega)) (by omega) (by omega) (by decide) dX6_weekNow_5 ?_
  refine jx_bipush E dX6_weekNow_6 ?_
  refine jx_idivp E dX6_weekNow_8 ?_
  refine jx_bipush E dX6_weekNow_9 ?_
  refine jx_iremp E dX6_weekNow_11 ?_
  exact jx_iret E hr dX6_weekNow_12 rfl (by first | rfl | (congr 1; done))
set_option maxHeartbeats 4000000 in
theorem c_X6_isCold (l : Launch) (G : GT) (b : Nat → Nat) (y : MS) (h1 : 0 ≤ y 0 0 ∧ y 0 0 ≤ 2000000) (h2 : 0 ≤ y 0 (13 + weekP (y 0)) ∧ y 0 (13 + weekP (y 0)) ≤ 1) : CtI l G yX6_isCold cX6_isCold 1 (some .boolean) 2 [.ref (b 0)] (wsM G b y) (coldP (y 0)) (wsM G b y) := by
  have hw : 0 ≤ weekP (y 0) ∧ weekP (y 0) < 8 := by unfold weekP; omega
  refine CtI.of (by decide) (Nat.le_of_ble_eq_true rfl) ?_
  intro p e s m args below meth c A E hr
  refine jx_lv (lv' := [(0, .ref (b 0))]) [0] rfl ?_
  refine jx_aload_n E 0 dX6_isCold_0 rfl ?_
  refine jx_get E f_X6 0 (v := .ref (b 1)) wm_obj (by decide) wf_X6_9 rfl dX6_isCold_1 ?_
  refine jx_bipush E dX6_isCold_4 ?_
  refine jx_aload_n E 0 dX6_isCold_6 rfl ?_
  refine jx_callVi E [] [vI 13, .ref (b 1)] (c_X6_weekNow l G b y  (by omega)) mb_X6_weekNow mv_X6_weekNow wl_X6_45 f_X6 wm_obj dX6_isCold_7 ?_
  refine jx_iadd E dX6_isCold_10 ?_
  refine jx_iald E (v := (y 0) (13 + (weekP (y 0)))) wm_m (row0_at (by omega) (by omega)) (by omega) (by omega) (by decide) dX6_isCold_11 ?_
  refine jx_iconst E dX6_isCold_12 ?_
  refine jx_icmp_ne (tgt := 20) E dX6_isCold_13 (by decide) (fun c1 => ?_) (fun c1 => ?_)
  · skip
    refine jx_iconst E dX6_isCold_20 ?_
    exact jx_zret E hr dX6_isCold_21 (by simp only [coldP]; omega) (by first | rfl | (congr 1; done)) (by first | exact Or.inl rfl | exact Or.inr rfl | omega)
  · skip
    refine jx_iconst E dX6_isCold_16 ?_
    refine jx_goto (tgt := 21) E dX6_isCold_17 (by decide) ?_
    exact jx_zret E hr dX6_isCold_21 (by simp only [coldP]; omega) (by first | rfl | (congr 1; done)) (by first | exact Or.inl rfl | exact Or.inr rfl | omega)
set_option maxHeartbeats 4000000 in
theorem c_X6_isOff (l : Launch) (G : GT) (b : Nat → Nat) (y : MS) {f : Int} (h1 : 0 ≤ f) (h2 : f < 8) (h3 : 0 ≤ y 0 (21 + 5 * f + 2) ∧ y 0 (21 + 5 * f + 2) ≤ 1) : CtI l G yX6_isOff cX6_isOff 2 (some .boolean) 2 [.ref (b 0), vI f] (wsM G b y) (if (y 0) (21 + 5 * f + 2) = 1 then 1 else 0) (wsM G b y) := by
  refine CtI.of (by decide) (Nat.le_of_ble_eq_true rfl) ?_
  intro p e s m args below meth c A E hr
  refine jx_lv (lv' := [(0, .ref (b 0)), (1, vI f)]) [0, 1] rfl ?_
  refine jx_aload_n E 0 dX6_isOff_0 rfl ?_
  refine jx_iload_n E 1 dX6_isOff_1 rfl ?_
  refine jx_iconst E dX6_isOff_2 ?_
  refine jx_callVi E [vI f, vI 2] [] (c_X6_it l G b y (f := f) (what := 2) (by omega) (by omega) (by omega) (by omega)) mb_X6_it mv_X6_it wl_X6_49 f_X6 wm_obj dX6_isOff_3 ?_
  refine jx_iconst E dX6_isOff_6 ?_
  refine jx_icmp_ne (tgt := 14) E dX6_isOff_7 (by decide) (fun c1 => ?_) (fun c1 => ?_)
  · skip
    refine jx_iconst E dX6_isOff_14 ?_
    exact jx_zret E hr dX6_isOff_15 (by omega) (by first | rfl | (congr 1; done)) (by first | exact Or.inl rfl | exact Or.inr rfl | omega)
  · skip
    refine jx_iconst E dX6_isOff_10 ?_
    refine jx_goto (tgt := 15) E dX6_isOff_11 (by decide) ?_
    exact jx_zret E hr dX6_isOff_15 (by omega) (by first | rfl | (congr 1; done)) (by first | exact Or.inl rfl | exact Or.inr rfl | omega)
set_option maxHeartbeats 4000000 in
theorem c_X6_in (l : Launch) (G : GT) (ws : va_W) {v lo hi : Int} (h1 : inL v) (h2 : inR lo) (h3 : inR hi) : CtI l G yX6_in cX6_in 4 (some .boolean) 1 [vL v, vI lo, vI hi] ws (if lo ≤ v ∧ v ≤ hi then 1 else 0) ws := by
  unfold inL at h1; unfold inR at h2 h3
  refine CtI.of (by decide) (Nat.le_of_ble_eq_true rfl) ?_
  intro p e s m args below meth c A E hr
  refine jx_lv (lv' := [(0, vL v), (2, vI lo), (3, vI hi)]) [0, 1, 2] rfl ?_
  refine jx_lload_n E 0 dX6_in_0 rfl ?_
  refine jx_iload_n E 1 dX6_in_1 rfl ?_
  refine jx_i2l E dX6_in_2 ?_
  refine jx_lcmp_lt (tgt := 18) E dX6_in_3 dX6_in_4 (by decide) (fun c1 => ?_) (fun c1 => ?_)
  · skip
    refine jx_iconst E dX6_in_18 ?_
    exact jx_zret E hr dX6_in_19 (by omega) (by first | rfl | (congr 1; done)) (by first | exact Or.inl rfl | exact Or.inr rfl | omega)
  · skip
    refine jx_lload_n E 0 dX6_in_7 rfl ?_
    refine jx_iload_n E 2 dX6_in_8 rfl ?_
    refine jx_i2l E dX6_in_9 ?_
    refine jx_lcmp_gt (tgt := 18) E dX6_in_10 dX6_in_11 (by decide) (fun c2 => ?_) (fun c2 => ?_)
    · skip
      refine jx_iconst E dX6_in_18 ?_
      exact jx_zret E hr dX6_in_19 (by omega) (by first | rfl | (congr 1; done)) (by first | exact Or.inl rfl | exact Or.inr rfl | omega)
    · skip
      refine jx_iconst E dX6_in_14 ?_
      refine jx_goto (tgt := 19) E dX6_in_15 (by decide) ?_
      exact jx_zret E hr dX6_in_19 (by omega) (by first | rfl | (congr 1; done)) (by first | exact Or.inl rfl | exact Or.inr rfl | omega)
set_option maxHeartbeats 4000000 in
theorem c_X6_held (l : Launch) (G : GT) (ws : va_W) {v lo hi : Int} (h1 : inR v) (h2 : inR lo) (h3 : inR hi) : CtI l G yX6_held cX6_held 3 (some .int) 1 [vI v, vI lo, vI hi] ws (if v < lo then lo else if hi < v then hi else v) ws := by
  unfold inR at h1 h2 h3
  refine CtI.of (by decide) (Nat.le_of_ble_eq_true rfl) ?_
  intro p e s m args below meth c A E hr
  refine jx_lv (lv' := [(0, vI v), (1, vI lo), (2, vI hi)]) [0, 1, 2] rfl ?_
  refine jx_iload_n E 0 dX6_held_0 rfl ?_
  refine jx_iload_n E 1 dX6_held_1 rfl ?_
  refine jx_icmp_ge (tgt := 9) E dX6_held_2 (by decide) (fun c1 => ?_) (fun c1 => ?_)
  · skip
    refine jx_iload_n E 0 dX6_held_9 rfl ?_
    refine jx_iload_n E 2 dX6_held_10 rfl ?_
    refine jx_icmp_le (tgt := 18) E dX6_held_11 (by decide) (fun c2 => ?_) (fun c2 => ?_)
    · skip
      refine jx_iload_n E 0 dX6_held_18 rfl ?_
      exact jx_iret E hr dX6_held_19 (by omega) (by first | rfl | (congr 1; done))
    · skip
      refine jx_iload_n E 2 dX6_held_14 rfl ?_
      refine jx_goto (tgt := 19) E dX6_held_15 (by decide) ?_
      exact jx_iret E hr dX6_held_19 (by omega) (by first | rfl | (congr 1; done))
  · skip
    refine jx_iload_n E 1 dX6_held_5 rfl ?_
    refine jx_goto (tgt := 19) E dX6_held_6 (by decide) ?_
    exact jx_iret E hr dX6_held_19 (by omega) (by first | rfl | (congr 1; done))
set_option maxHeartbeats 4000000 in
theorem c_X6_uses (l : Launch) (G : GT) (b : Nat → Nat) (y : MS) {f : Int} (h1 : 0 ≤ f) (h2 : f < 8) (h3 : VF (y 0) f) (h4 : 0 ≤ y 0 0 ∧ y 0 0 ≤ 2000000) (h5 : 0 ≤ y 0 (13 + weekP (y 0)) ∧ y 0 (13 + weekP (y 0)) ≤ 1) : CtI l G yX6_uses cX6_uses 4 (some .int) 3 [.ref (b 0), vI f] (wsM G b y) (usesP (y 0) f (coldP (y 0))) (wsM G b y) := by
  obtain ⟨k1, k2, k3, k4, k5⟩ := id h3
  have hc : coldP (y 0) = 0 ∨ coldP (y 0) = 1 := by unfold coldP; omega
  refine CtI.of (by decide) (Nat.le_of_ble_eq_true rfl) ?_
  intro p e s m args below meth c A E hr
  refine jx_lv (lv' := [(0, .ref (b 0)), (1, vI f)]) [0, 1] rfl ?_
  refine jx_aload_n E 0 dX6_uses_0 rfl ?_
  refine jx_iload_n E 1 dX6_uses_1 rfl ?_
  refine jx_iconst E dX6_uses_2 ?_
  refine jx_callVi E [vI f, vI 1] [] (c_X6_it l G b y (f := f) (what := 1) (by omega) (by omega) (by omega) (by omega)) mb_X6_it mv_X6_it wl_X6_49 f_X6 wm_obj dX6_uses_3 ?_
  refine jx_istore_n E dX6_uses_6 (by decide) [(2, vI ((y 0) (21 + 5 * f + 1))), (0, .ref (b 0)), (1, vI f)] rfl ?_
  have JN104 : ∀ (v : Int), (v = goP (y 0) f) → (0 ≤ v ∧ v ≤ 80) → JX p l e (rmL 3) s m args below meth c 4 G A 0 0 (QI below args s G A (usesP (y 0) f (coldP (y 0))) (wsM G b y)) (wsM G b y) 104 [(3, vI v), (2, vI ((y 0) (21 + 5 * f + 1))), (0, .ref (b 0)), (1, vI f)] [] := by
    intro v hv hv2
    have JN128 : ∀ (u : Int), (u = if y 0 (21 + 5 * f + 2) = 1 ∧ y 0 (21 + 5 * f) ≠ 5 then 0 else goP (y 0) f) → (0 ≤ u ∧ u ≤ 80) → JX p l e (rmL 3) s m args below meth c 4 G A 0 0 (QI below args s G A (usesP (y 0) f (coldP (y 0))) (wsM G b y)) (wsM G b y) 128 [(3, vI u), (2, vI ((y 0) (21 + 5 * f + 1))), (0, .ref (b 0)), (1, vI f)] [] := by
      intro u hu hu2
      refine jx_aload_n E 2 dX6_uses_128 rfl ?_
      refine jx_callVi E [] [] (c_X6_isCold l G b y  (by omega) (by omega)) mb_X6_isCold mv_X6_isCold wl_X6_61 f_X6 wm_obj dX6_uses_129 ?_
      refine jx_if_eq (tgt := 141) E dX6_uses_132 (by decide) (fun c1 => ?_) (fun c1 => ?_)
      · skip
        refine jx_iload_n E 0 dX6_uses_141 rfl ?_
        exact jx_iret E hr dX6_uses_142 (by simp only [usesP]; omega) (by first | rfl | (congr 1; done))
      · skip
        refine jx_iload_n E 0 dX6_uses_135 rfl ?_
        refine jx_iconst E dX6_uses_136 ?_
        refine jx_idivp E dX6_uses_137 ?_
        refine jx_goto (tgt := 142) E dX6_uses_138 (by decide) ?_
        exact jx_iret E hr dX6_uses_142 (by simp only [usesP]; omega) (by first | rfl | (congr 1; done))
    refine jx_aload_n E 2 dX6_uses_104 rfl ?_
    refine jx_iload_n E 3 dX6_uses_105 rfl ?_
    refine jx_callVi E [vI f] [] (c_X6_isOff l G b y (f := f) (by omega) (by omega) (by omega)) mb_X6_isOff mv_X6_isOff wl_X6_57 f_X6 wm_obj dX6_uses_106 ?_
    refine jx_if_eq (tgt := 126) E dX6_uses_109 (by decide) (fun c2 => ?_) (fun c2 => ?_)
    · skip
      refine jx_iload_n E 0 dX6_uses_126 rfl ?_
      refine jx_istore_n E dX6_uses_127 (by decide) [(3, vI v), (2, vI ((y 0) (21 + 5 * f + 1))), (0, .ref (b 0)), (1, vI f)] rfl ?_
      exact JN128 _ (by omega) (by omega)
    · skip
      refine jx_aload_n E 2 dX6_uses_112 rfl ?_
      refine jx_iload_n E 3 dX6_uses_113 rfl ?_
      refine jx_iconst E dX6_uses_114 ?_
      refine jx_callVi E [vI f, vI 0] [] (c_X6_it l G b y (f := f) (what := 0) (by omega) (by omega) (by omega) (by omega)) mb_X6_it mv_X6_it wl_X6_49 f_X6 wm_obj dX6_uses_115 ?_
      refine jx_st (st' := [vI ((y 0) (21 + 5 * f))]) (by simp only [Int.add_zero]; first | done | rfl) ?_
      refine jx_iconst E dX6_uses_118 ?_
      refine jx_icmp_eq (tgt := 126) E dX6_uses_119 (by decide) (fun c3 => ?_) (fun c3 => ?_)
      · skip
        refine jx_iload_n E 0 dX6_uses_126 rfl ?_
        refine jx_istore_n E dX6_uses_127 (by decide) [(3, vI v), (2, vI ((y 0) (21 + 5 * f + 1))), (0, .ref (b 0)), (1, vI f)] rfl ?_
        exact JN128 _ (by omega) (by omega)
      · skip
        refine jx_iconst E dX6_uses_122 ?_
        refine jx_goto (tgt := 127) E dX6_uses_123 (by decide) ?_
        refine jx_istore_n E dX6_uses_127 (by decide) [(3, vI 0), (2, vI ((y 0) (21 + 5 * f + 1))), (0, .ref (b 0)), (1, vI f)] rfl ?_
        exact JN128 _ (by omega) (by omega)
  refine jx_iload_n E 0 dX6_uses_7 rfl ?_
  refine jx_istore_n E dX6_uses_8 (by decide) [(3, vI ((y 0) (21 + 5 * f + 1))), (2, vI ((y 0) (21 + 5 * f + 1))), (0, .ref (b 0)), (1, vI f)] rfl ?_
  refine jx_aload_n E 2 dX6_uses_9 rfl ?_
  refine jx_iload_n E 3 dX6_uses_10 rfl ?_
  refine jx_iconst E dX6_uses_11 ?_
  refine jx_callVi E [vI f, vI 0] [] (c_X6_it l G b y (f := f) (what := 0) (by omega) (by omega) (by omega) (by omega)) mb_X6_it mv_X6_it wl_X6_49 f_X6 wm_obj dX6_uses_12 ?_
  refine jx_st (st' := [vI ((y 0) (21 + 5 * f))]) (by simp only [Int.add_zero]; first | done | rfl) ?_
  rcases (show (y 0) (21 + 5 * f) = 1 ∨ (y 0) (21 + 5 * f) = 2 ∨ (y 0) (21 + 5 * f) = 3 ∨ (y 0) (21 + 5 * f) = 4 ∨ (y 0) (21 + 5 * f) = 5 ∨ ((y 0) (21 + 5 * f) < 1 ∨ 5 < (y 0) (21 + 5 * f)) by omega) with c4 | c4 | c4 | c4 | c4 | c4
  · skip
    refine jx_tabIn (tgt := 48) (off := 33) E 1 dX6_uses_15 c4 (by unfold inR; decide) (by rfl) (by decide) ?_
    refine jx_iconst E dX6_uses_48 ?_
    refine jx_iload_n E 1 dX6_uses_49 rfl ?_
    refine jx_imul E dX6_uses_50 ?_
    refine jx_istore_n E dX6_uses_51 (by decide) [(3, vI (2 * ((y 0) (21 + 5 * f + 1)))), (2, vI ((y 0) (21 + 5 * f + 1))), (0, .ref (b 0)), (1, vI f)] rfl ?_
    refine jx_goto (tgt := 104) E dX6_uses_52 (by decide) ?_
    exact JN104 _ (by simp only [goP]; omega) (by omega)
  · skip
    refine jx_tabIn (tgt := 55) (off := 40) E 2 dX6_uses_15 c4 (by unfold inR; decide) (by rfl) (by decide) ?_
    refine jx_iload_n E 1 dX6_uses_55 rfl ?_
    refine jx_iconst E dX6_uses_56 ?_
    refine jx_icmp_le (tgt := 66) E dX6_uses_57 (by decide) (fun c5 => ?_) (fun c5 => ?_)
    · skip
      refine jx_iconst E dX6_uses_66 ?_
      refine jx_istore_n E dX6_uses_67 (by decide) [(3, vI 1), (2, vI ((y 0) (21 + 5 * f + 1))), (0, .ref (b 0)), (1, vI f)] rfl ?_
      refine jx_goto (tgt := 104) E dX6_uses_68 (by decide) ?_
      exact JN104 _ (by simp only [goP]; omega) (by omega)
    · skip
      refine jx_iload_n E 1 dX6_uses_60 rfl ?_
      refine jx_iconst E dX6_uses_61 ?_
      refine jx_idivp E dX6_uses_62 ?_
      refine jx_goto (tgt := 67) E dX6_uses_63 (by decide) ?_
      refine jx_istore_n E dX6_uses_67 (by decide) [(3, vI (((y 0) (21 + 5 * f + 1)) / 2)), (2, vI ((y 0) (21 + 5 * f + 1))), (0, .ref (b 0)), (1, vI f)] rfl ?_
      refine jx_goto (tgt := 104) E dX6_uses_68 (by decide) ?_
      exact JN104 _ (by simp only [goP]; omega) (by omega)
  · skip
    refine jx_tabIn (tgt := 71) (off := 56) E 3 dX6_uses_15 c4 (by unfold inR; decide) (by rfl) (by decide) ?_
    refine jx_iconst E dX6_uses_71 ?_
    refine jx_istore_n E dX6_uses_72 (by decide) [(3, vI 2), (2, vI ((y 0) (21 + 5 * f + 1))), (0, .ref (b 0)), (1, vI f)] rfl ?_
    refine jx_goto (tgt := 104) E dX6_uses_73 (by decide) ?_
    exact JN104 _ (by simp only [goP]; omega) (by omega)
  · skip
    refine jx_tabIn (tgt := 76) (off := 61) E 4 dX6_uses_15 c4 (by unfold inR; decide) (by rfl) (by decide) ?_
    refine jx_iconst E dX6_uses_76 ?_
    refine jx_iload_n E 1 dX6_uses_77 rfl ?_
    refine jx_imul E dX6_uses_78 ?_
    refine jx_aload_n E 2 dX6_uses_79 rfl ?_
    refine jx_iload_n E 3 dX6_uses_80 rfl ?_
    refine jx_iconst E dX6_uses_81 ?_
    refine jx_callVi E [vI f, vI 3] [vI (2 * ((y 0) (21 + 5 * f + 1)))] (c_X6_it l G b y (f := f) (what := 3) (by omega) (by omega) (by omega) (by omega)) mb_X6_it mv_X6_it wl_X6_49 f_X6 wm_obj dX6_uses_82 ?_
    refine jx_bipush E dX6_uses_85 ?_
    refine jx_idivp E dX6_uses_87 ?_
    refine jx_isub E dX6_uses_88 ?_
    refine jx_iconst E dX6_uses_89 ?_
    refine jx_bipush E dX6_uses_90 ?_
    refine jx_callSi E [vI ((2 * ((y 0) (21 + 5 * f + 1))) - (((y 0) (21 + 5 * f + 3)) / 20)), vI 0, vI 80] [] (c_X6_held l G (wsM G b y) (v := (2 * ((y 0) (21 + 5 * f + 1))) - (((y 0) (21 + 5 * f + 3)) / 20)) (lo := 0) (hi := 80) (by unfold inR; omega) (by unfold inR; omega) (by unfold inR; omega)) mb_X6_held ms_X6_held wl_X6_53 dX6_uses_92 ?_
    refine jx_istore_n E dX6_uses_95 (by decide) [(3, vI (if (2 * ((y 0) (21 + 5 * f + 1))) - (((y 0) (21 + 5 * f + 3)) / 20) < 0 then 0 else if 80 < (2 * ((y 0) (21 + 5 * f + 1))) - (((y 0) (21 + 5 * f + 3)) / 20) then 80 else (2 * ((y 0) (21 + 5 * f + 1))) - (((y 0) (21 + 5 * f + 3)) / 20))), (2, vI ((y 0) (21 + 5 * f + 1))), (0, .ref (b 0)), (1, vI f)] rfl ?_
    refine jx_goto (tgt := 104) E dX6_uses_96 (by decide) ?_
    exact JN104 _ (by simp only [goP]; omega) (by omega)
  · skip
    refine jx_tabIn (tgt := 99) (off := 84) E 5 dX6_uses_15 c4 (by unfold inR; decide) (by rfl) (by decide) ?_
    refine jx_iconst E dX6_uses_99 ?_
    refine jx_istore_n E dX6_uses_100 (by decide) [(3, vI 1), (2, vI ((y 0) (21 + 5 * f + 1))), (0, .ref (b 0)), (1, vI f)] rfl ?_
    refine jx_goto (tgt := 104) E dX6_uses_101 (by decide) ?_
    exact JN104 _ (by simp only [goP]; omega) (by omega)
  · skip
    refine jx_tabOut (tgt := 104) E dX6_uses_15 c4 (by decide) ?_
    exact JN104 _ (by simp only [goP]; omega) (by omega)
set_option maxHeartbeats 4000000 in
theorem c_X6_heard (l : Launch) (G : GT) (b : Nat → Nat) (y : MS) {f : Int} (h1 : 0 ≤ f) (h2 : f < 8) (h3 : VF (y 0) f) : CtI l G yX6_heard cX6_heard 3 (some .int) 3 [.ref (b 0), vI f] (wsM G b y) (heardP (y 0) f) (wsM G b y) := by
  obtain ⟨k1, k2, k3, k4, k5⟩ := id h3
  refine CtI.of (by decide) (Nat.le_of_ble_eq_true rfl) ?_
  intro p e s m args below meth c A E hr
  refine jx_lv (lv' := [(0, .ref (b 0)), (1, vI f)]) [0, 1] rfl ?_
  refine jx_aload_n E 0 dX6_heard_0 rfl ?_
  refine jx_iload_n E 1 dX6_heard_1 rfl ?_
  refine jx_iconst E dX6_heard_2 ?_
  refine jx_callVi E [vI f, vI 1] [] (c_X6_it l G b y (f := f) (what := 1) (by omega) (by omega) (by omega) (by omega)) mb_X6_it mv_X6_it wl_X6_49 f_X6 wm_obj dX6_heard_3 ?_
  refine jx_istore_n E dX6_heard_6 (by decide) [(2, vI ((y 0) (21 + 5 * f + 1))), (0, .ref (b 0)), (1, vI f)] rfl ?_
  refine jx_aload_n E 1 dX6_heard_7 rfl ?_
  refine jx_iload_n E 2 dX6_heard_8 rfl ?_
  refine jx_iconst E dX6_heard_9 ?_
  refine jx_callVi E [vI f, vI 0] [] (c_X6_it l G b y (f := f) (what := 0) (by omega) (by omega) (by omega) (by omega)) mb_X6_it mv_X6_it wl_X6_49 f_X6 wm_obj dX6_heard_10 ?_
  refine jx_st (st' := [vI ((y 0) (21 + 5 * f))]) (by simp only [Int.add_zero]; first | done | rfl) ?_
  refine jx_iconst E dX6_heard_13 ?_
  refine jx_icmp_ne (tgt := 29) E dX6_heard_14 (by decide) (fun c1 => ?_) (fun c1 => ?_)
  · skip
    refine jx_aload_n E 1 dX6_heard_29 rfl ?_
    refine jx_iload_n E 2 dX6_heard_30 rfl ?_
    refine jx_callVi E [vI f] [] (c_X6_isOff l G b y (f := f) (by omega) (by omega) (by omega)) mb_X6_isOff mv_X6_isOff wl_X6_57 f_X6 wm_obj dX6_heard_31 ?_
    refine jx_if_eq (tgt := 39) E dX6_heard_34 (by decide) (fun c2 => ?_) (fun c2 => ?_)
    · skip
      refine jx_aload_n E 1 dX6_heard_39 rfl ?_
      refine jx_iload_n E 2 dX6_heard_40 rfl ?_
      refine jx_iconst E dX6_heard_41 ?_
      refine jx_callVi E [vI f, vI 0] [] (c_X6_it l G b y (f := f) (what := 0) (by omega) (by omega) (by omega) (by omega)) mb_X6_it mv_X6_it wl_X6_49 f_X6 wm_obj dX6_heard_42 ?_
      refine jx_st (st' := [vI ((y 0) (21 + 5 * f))]) (by simp only [Int.add_zero]; first | done | rfl) ?_
      rcases (show (y 0) (21 + 5 * f) = 1 ∨ (y 0) (21 + 5 * f) = 2 ∨ (y 0) (21 + 5 * f) = 3 ∨ (y 0) (21 + 5 * f) = 4 ∨ ((y 0) (21 + 5 * f) < 1 ∨ 4 < (y 0) (21 + 5 * f)) by omega) with c3 | c3 | c3 | c3 | c3
      · skip
        refine jx_tabIn (tgt := 76) (off := 31) E 1 dX6_heard_45 c3 (by unfold inR; decide) (by rfl) (by decide) ?_
        refine jx_iload_n E 0 dX6_heard_76 rfl ?_
        refine jx_bipush E dX6_heard_77 ?_
        refine jx_iadd E dX6_heard_79 ?_
        exact jx_iret E hr dX6_heard_80 (by simp only [heardP, soundP]; omega) (by first | rfl | (congr 1; done))
      · skip
        refine jx_tabIn (tgt := 81) (off := 36) E 2 dX6_heard_45 c3 (by unfold inR; decide) (by rfl) (by decide) ?_
        refine jx_iload_n E 0 dX6_heard_81 rfl ?_
        refine jx_iconst E dX6_heard_82 ?_
        refine jx_idivp E dX6_heard_83 ?_
        refine jx_iconst E dX6_heard_84 ?_
        refine jx_iadd E dX6_heard_85 ?_
        exact jx_iret E hr dX6_heard_86 (by simp only [heardP, soundP]; omega) (by first | rfl | (congr 1; done))
      · skip
        refine jx_tabIn (tgt := 87) (off := 42) E 3 dX6_heard_45 c3 (by unfold inR; decide) (by rfl) (by decide) ?_
        refine jx_iconst E dX6_heard_87 ?_
        exact jx_iret E hr dX6_heard_88 (by simp only [heardP, soundP]; omega) (by first | rfl | (congr 1; done))
      · skip
        refine jx_tabIn (tgt := 76) (off := 31) E 4 dX6_heard_45 c3 (by unfold inR; decide) (by rfl) (by decide) ?_
        refine jx_iload_n E 0 dX6_heard_76 rfl ?_
        refine jx_bipush E dX6_heard_77 ?_
        refine jx_iadd E dX6_heard_79 ?_
        exact jx_iret E hr dX6_heard_80 (by simp only [heardP, soundP]; omega) (by first | rfl | (congr 1; done))
      · skip
        refine jx_tabOut (tgt := 89) E dX6_heard_45 c3 (by decide) ?_
        refine jx_iload_n E 0 dX6_heard_89 rfl ?_
        exact jx_iret E hr dX6_heard_90 (by simp only [heardP, soundP]; omega) (by first | rfl | (congr 1; done))
    · skip
      refine jx_iconst E dX6_heard_37 ?_
      exact jx_iret E hr dX6_heard_38 (by simp only [heardP, soundP]; omega) (by first | rfl | (congr 1; done))
  · skip
    refine jx_iconst E dX6_heard_17 ?_
    refine jx_aload_n E 1 dX6_heard_18 rfl ?_
    refine jx_iload_n E 2 dX6_heard_19 rfl ?_
    refine jx_iconst E dX6_heard_20 ?_
    refine jx_callVi E [vI f, vI 3] [vI 1] (c_X6_it l G b y (f := f) (what := 3) (by omega) (by omega) (by omega) (by omega)) mb_X6_it mv_X6_it wl_X6_49 f_X6 wm_obj dX6_heard_21 ?_
    refine jx_bipush E dX6_heard_24 ?_
    refine jx_idivp E dX6_heard_26 ?_
    refine jx_iadd E dX6_heard_27 ?_
    exact jx_iret E hr dX6_heard_28 (by simp only [heardP, soundP]; omega) (by first | rfl | (congr 1; done))
set_option maxHeartbeats 4000000 in
theorem c_X6_gains (l : Launch) (G : GT) (b : Nat → Nat) (y : MS) {f : Int} (h1 : 0 ≤ f) (h2 : f < 8) (h3 : VF (y 0) f) (h4 : 0 ≤ y 0 0 ∧ y 0 0 ≤ 2000000) (h5 : 0 ≤ y 0 (13 + weekP (y 0)) ∧ y 0 (13 + weekP (y 0)) ≤ 1) : CtI l G yX6_gains cX6_gains 5 (some .int) 3 [.ref (b 0), vI f] (wsM G b y) (gainsP (y 0) f (coldP (y 0))) (wsM G b y) := by
  obtain ⟨k1, k2, k3, k4, k5⟩ := id h3
  have hc : coldP (y 0) = 0 ∨ coldP (y 0) = 1 := by unfold coldP; omega
  refine CtI.of (by decide) (Nat.le_of_ble_eq_true rfl) ?_
  intro p e s m args below meth c A E hr
  refine jx_lv (lv' := [(0, .ref (b 0)), (1, vI f)]) [0, 1] rfl ?_
  refine jx_aload_n E 0 dX6_gains_0 rfl ?_
  refine jx_iload_n E 1 dX6_gains_1 rfl ?_
  refine jx_callVi E [vI f] [] (c_X6_isOff l G b y (f := f) (by omega) (by omega) (by omega)) mb_X6_isOff mv_X6_isOff wl_X6_57 f_X6 wm_obj dX6_gains_2 ?_
  refine jx_if_eq (tgt := 12) E dX6_gains_5 (by decide) (fun c1 => ?_) (fun c1 => ?_)
  · skip
    refine jx_iconst E dX6_gains_12 ?_
    refine jx_istore_n E dX6_gains_13 (by decide) [(2, vI 1), (0, .ref (b 0)), (1, vI f)] rfl ?_
    refine jx_aload_n E 1 dX6_gains_14 rfl ?_
    refine jx_iload_n E 2 dX6_gains_15 rfl ?_
    refine jx_iconst E dX6_gains_16 ?_
    refine jx_callVi E [vI f, vI 1] [] (c_X6_it l G b y (f := f) (what := 1) (by omega) (by omega) (by omega) (by omega)) mb_X6_it mv_X6_it wl_X6_49 f_X6 wm_obj dX6_gains_17 ?_
    refine jx_bipush E dX6_gains_20 ?_
    refine jx_icmp_le (tgt := 29) E dX6_gains_22 (by decide) (fun c2 => ?_) (fun c2 => ?_)
    · skip
      refine jx_iload_n E 0 dX6_gains_29 rfl ?_
      refine jx_istore_n E dX6_gains_30 (by decide) [(3, vI 1), (2, vI 1), (0, .ref (b 0)), (1, vI f)] rfl ?_
      refine jx_aload_n E 2 dX6_gains_31 rfl ?_
      refine jx_callVi E [] [] (c_X6_isCold l G b y  (by omega) (by omega)) mb_X6_isCold mv_X6_isCold wl_X6_61 f_X6 wm_obj dX6_gains_32 ?_
      refine jx_if_eq (tgt := 42) E dX6_gains_35 (by decide) (fun c3 => ?_) (fun c3 => ?_)
      · skip
        refine jx_iload_n E 1 dX6_gains_42 rfl ?_
        refine jx_iconst E dX6_gains_43 ?_
        refine jx_iadd E dX6_gains_44 ?_
        refine jx_istore E dX6_gains_45 (by decide) [(4, vI (1 + 1)), (3, vI 1), (2, vI 1), (0, .ref (b 0)), (1, vI f)] rfl ?_
        refine jx_aload_n E 3 dX6_gains_47 rfl ?_
        refine jx_iload_n E 4 dX6_gains_48 rfl ?_
        refine jx_iconst E dX6_gains_49 ?_
        refine jx_callVi E [vI f, vI 0] [] (c_X6_it l G b y (f := f) (what := 0) (by omega) (by omega) (by omega) (by omega)) mb_X6_it mv_X6_it wl_X6_49 f_X6 wm_obj dX6_gains_50 ?_
        refine jx_st (st' := [vI ((y 0) (21 + 5 * f))]) (by simp only [Int.add_zero]; first | done | rfl) ?_
        rcases (show (y 0) (21 + 5 * f) = 1 ∨ (y 0) (21 + 5 * f) = 2 ∨ (y 0) (21 + 5 * f) = 3 ∨ (y 0) (21 + 5 * f) = 4 ∨ (y 0) (21 + 5 * f) = 5 ∨ ((y 0) (21 + 5 * f) < 1 ∨ 5 < (y 0) (21 + 5 * f)) by omega) with c4 | c4 | c4 | c4 | c4 | c4
        · skip
          refine jx_tabIn (tgt := 88) (off := 35) E 1 dX6_gains_53 c4 (by unfold inR; decide) (by rfl) (by decide) ?_
          refine jx_iload_n E 1 dX6_gains_88 rfl ?_
          exact jx_iret E hr dX6_gains_89 (by simp only [gainsP]; omega) (by first | rfl | (congr 1; done))
        · skip
          refine jx_tabIn (tgt := 90) (off := 37) E 2 dX6_gains_53 c4 (by unfold inR; decide) (by rfl) (by decide) ?_
          refine jx_iconst E dX6_gains_90 ?_
          exact jx_iret E hr dX6_gains_91 (by simp only [gainsP]; omega) (by first | rfl | (congr 1; done))
        · skip
          refine jx_tabIn (tgt := 92) (off := 39) E 3 dX6_gains_53 c4 (by unfold inR; decide) (by rfl) (by decide) ?_
          refine jx_iload E 0 dX6_gains_92 rfl ?_
          exact jx_iret E hr dX6_gains_94 (by simp only [gainsP]; omega) (by first | rfl | (congr 1; done))
        · skip
          refine jx_tabIn (tgt := 95) (off := 42) E 4 dX6_gains_53 c4 (by unfold inR; decide) (by rfl) (by decide) ?_
          refine jx_iload_n E 1 dX6_gains_95 rfl ?_
          refine jx_iconst E dX6_gains_96 ?_
          refine jx_isub E dX6_gains_97 ?_
          exact jx_iret E hr dX6_gains_98 (by simp only [gainsP]; omega) (by first | rfl | (congr 1; done))
        · skip
          refine jx_tabIn (tgt := 99) (off := 46) E 5 dX6_gains_53 c4 (by unfold inR; decide) (by rfl) (by decide) ?_
          refine jx_iload E 0 dX6_gains_99 rfl ?_
          refine jx_if_ge (tgt := 108) E dX6_gains_101 (by decide) (fun c5 => ?_) (fun c5 => ?_)
          · skip
            refine jx_iload E 0 dX6_gains_108 rfl ?_
            exact jx_iret E hr dX6_gains_110 (by simp only [gainsP]; omega) (by first | rfl | (congr 1; done))
          · skip
            refine jx_iconst E dX6_gains_104 ?_
            refine jx_goto (tgt := 110) E dX6_gains_105 (by decide) ?_
            exact jx_iret E hr dX6_gains_110 (by simp only [gainsP]; omega) (by first | rfl | (congr 1; done))
        · skip
          refine jx_tabOut (tgt := 111) E dX6_gains_53 c4 (by decide) ?_
          refine jx_iload_n E 2 dX6_gains_111 rfl ?_
          exact jx_iret E hr dX6_gains_112 (by simp only [gainsP]; omega) (by first | rfl | (congr 1; done))
      · skip
        refine jx_iload_n E 1 dX6_gains_38 rfl ?_
        refine jx_goto (tgt := 45) E dX6_gains_39 (by decide) ?_
        refine jx_istore E dX6_gains_45 (by decide) [(4, vI 1), (3, vI 1), (2, vI 1), (0, .ref (b 0)), (1, vI f)] rfl ?_
        refine jx_aload_n E 3 dX6_gains_47 rfl ?_
        refine jx_iload_n E 4 dX6_gains_48 rfl ?_
        refine jx_iconst E dX6_gains_49 ?_
        refine jx_callVi E [vI f, vI 0] [] (c_X6_it l G b y (f := f) (what := 0) (by omega) (by omega) (by omega) (by omega)) mb_X6_it mv_X6_it wl_X6_49 f_X6 wm_obj dX6_gains_50 ?_
        refine jx_st (st' := [vI ((y 0) (21 + 5 * f))]) (by simp only [Int.add_zero]; first | done | rfl) ?_
        rcases (show (y 0) (21 + 5 * f) = 1 ∨ (y 0) (21 + 5 * f) = 2 ∨ (y 0) (21 + 5 * f) = 3 ∨ (y 0) (21 + 5 * f) = 4 ∨ (y 0) (21 + 5 * f) = 5 ∨ ((y 0) (21 + 5 * f) < 1 ∨ 5 < (y 0) (21 + 5 * f)) by omega) with c6 | c6 | c6 | c6 | c6 | c6
        · skip
          refine jx_tabIn (tgt := 88) (off := 35) E 1 dX6_gains_53 c6 (by unfold inR; decide) (by rfl) (by decide) ?_
          refine jx_iload_n E 1 dX6_gains_88 rfl ?_
          exact jx_iret E hr dX6_gains_89 (by simp only [gainsP]; omega) (by first | rfl | (congr 1; done))
        · skip
          refine jx_tabIn (tgt := 90) (off := 37) E 2 dX6_gains_53 c6 (by unfold inR; decide) (by rfl) (by decide) ?_
          refine jx_iconst E dX6_gains_90 ?_
          exact jx_iret E hr dX6_gains_91 (by simp only [gainsP]; omega) (by first | rfl | (congr 1; done))
        · skip
          refine jx_tabIn (tgt := 92) (off := 39) E 3 dX6_gains_53 c6 (by unfold inR; decide) (by rfl) (by decide) ?_
          refine jx_iload E 0 dX6_gains_92 rfl ?_
          exact jx_iret E hr dX6_gains_94 (by simp only [gainsP]; omega) (by first | rfl | (congr 1; done))
        · skip
          refine jx_tabIn (tgt := 95) (off := 42) E 4 dX6_gains_53 c6 (by unfold inR; decide) (by rfl) (by decide) ?_
          refine jx_iload_n E 1 dX6_gains_95 rfl ?_
          refine jx_iconst E dX6_gains_96 ?_
          refine jx_isub E dX6_gains_97 ?_
          exact jx_iret E hr dX6_gains_98 (by simp only [gainsP]; omega) (by first | rfl | (congr 1; done))
        · skip
          refine jx_tabIn (tgt := 99) (off := 46) E 5 dX6_gains_53 c6 (by unfold inR; decide) (by rfl) (by decide) ?_
          refine jx_iload E 0 dX6_gains_99 rfl ?_
          refine jx_if_ge (tgt := 108) E dX6_gains_101 (by decide) (fun c7 => ?_) (fun c7 => ?_)
          · skip
            refine jx_iload E 0 dX6_gains_108 rfl ?_
            exact jx_iret E hr dX6_gains_110 (by simp only [gainsP]; omega) (by first | rfl | (congr 1; done))
          · skip
            exact absurd c7 (by decide)
        · skip
          refine jx_tabOut (tgt := 111) E dX6_gains_53 c6 (by decide) ?_
          refine jx_iload_n E 2 dX6_gains_111 rfl ?_
          exact jx_iret E hr dX6_gains_112 (by simp only [gainsP]; omega) (by first | rfl | (congr 1; done))
    · skip
      refine jx_iconst E dX6_gains_25 ?_
      refine jx_goto (tgt := 30) E dX6_gains_26 (by decide) ?_
      refine jx_istore_n E dX6_gains_30 (by decide) [(3, vI 0), (2, vI 1), (0, .ref (b 0)), (1, vI f)] rfl ?_
      refine jx_aload_n E 2 dX6_gains_31 rfl ?_
      refine jx_callVi E [] [] (c_X6_isCold l G b y  (by omega) (by omega)) mb_X6_isCold mv_X6_isCold wl_X6_61 f_X6 wm_obj dX6_gains_32 ?_
      refine jx_if_eq (tgt := 42) E dX6_gains_35 (by decide) (fun c8 => ?_) (fun c8 => ?_)
      · skip
        refine jx_iload_n E 1 dX6_gains_42 rfl ?_
        refine jx_iconst E dX6_gains_43 ?_
        refine jx_iadd E dX6_gains_44 ?_
        refine jx_istore E dX6_gains_45 (by decide) [(4, vI (1 + 1)), (3, vI 0), (2, vI 1), (0, .ref (b 0)), (1, vI f)] rfl ?_
        refine jx_aload_n E 3 dX6_gains_47 rfl ?_
        refine jx_iload_n E 4 dX6_gains_48 rfl ?_
        refine jx_iconst E dX6_gains_49 ?_
        refine jx_callVi E [vI f, vI 0] [] (c_X6_it l G b y (f := f) (what := 0) (by omega) (by omega) (by omega) (by omega)) mb_X6_it mv_X6_it wl_X6_49 f_X6 wm_obj dX6_gains_50 ?_
        refine jx_st (st' := [vI ((y 0) (21 + 5 * f))]) (by simp only [Int.add_zero]; first | done | rfl) ?_
        rcases (show (y 0) (21 + 5 * f) = 1 ∨ (y 0) (21 + 5 * f) = 2 ∨ (y 0) (21 + 5 * f) = 3 ∨ (y 0) (21 + 5 * f) = 4 ∨ (y 0) (21 + 5 * f) = 5 ∨ ((y 0) (21 + 5 * f) < 1 ∨ 5 < (y 0) (21 + 5 * f)) by omega) with c9 | c9 | c9 | c9 | c9 | c9
        · skip
          refine jx_tabIn (tgt := 88) (off := 35) E 1 dX6_gains_53 c9 (by unfold inR; decide) (by rfl) (by decide) ?_
          refine jx_iload_n E 1 dX6_gains_88 rfl ?_
          exact jx_iret E hr dX6_gains_89 (by simp only [gainsP]; omega) (by first | rfl | (congr 1; done))
        · skip
          refine jx_tabIn (tgt := 90) (off := 37) E 2 dX6_gains_53 c9 (by unfold inR; decide) (by rfl) (by decide) ?_
          refine jx_iconst E dX6_gains_90 ?_
          exact jx_iret E hr dX6_gains_91 (by simp only [gainsP]; omega) (by first | rfl | (congr 1; done))
        · skip
          refine jx_tabIn (tgt := 92) (off := 39) E 3 dX6_gains_53 c9 (by unfold inR; decide) (by rfl) (by decide) ?_
          refine jx_iload E 0 dX6_gains_92 rfl ?_
          exact jx_iret E hr dX6_gains_94 (by simp only [gainsP]; omega) (by first | rfl | (congr 1; done))
        · skip
          refine jx_tabIn (tgt := 95) (off := 42) E 4 dX6_gains_53 c9 (by unfold inR; decide) (by rfl) (by decide) ?_
          refine jx_iload_n E 1 dX6_gains_95 rfl ?_
          refine jx_iconst E dX6_gains_96 ?_
          refine jx_isub E dX6_gains_97 ?_
          exact jx_iret E hr dX6_gains_98 (by simp only [gainsP]; omega) (by first | rfl | (congr 1; done))
        · skip
          refine jx_tabIn (tgt := 99) (off := 46) E 5 dX6_gains_53 c9 (by unfold inR; decide) (by rfl) (by decide) ?_
          refine jx_iload E 0 dX6_gains_99 rfl ?_
          refine jx_if_ge (tgt := 108) E dX6_gains_101 (by decide) (fun c10 => ?_) (fun c10 => ?_)
          · skip
            refine jx_iload E 0 dX6_gains_108 rfl ?_
            exact jx_iret E hr dX6_gains_110 (by simp only [gainsP]; omega) (by first | rfl | (congr 1; done))
          · skip
            refine jx_iconst E dX6_gains_104 ?_
            refine jx_goto (tgt := 110) E dX6_gains_105 (by decide) ?_
            exact jx_iret E hr dX6_gains_110 (by simp only [gainsP]; omega) (by first | rfl | (congr 1; done))
        · skip
          refine jx_tabOut (tgt := 111) E dX6_gains_53 c9 (by decide) ?_
          refine jx_iload_n E 2 dX6_gains_111 rfl ?_
          exact jx_iret E hr dX6_gains_112 (by simp only [gainsP]; omega) (by first | rfl | (congr 1; done))
      · skip
        refine jx_iload_n E 1 dX6_gains_38 rfl ?_
        refine jx_goto (tgt := 45) E dX6_gains_39 (by decide) ?_
        refine jx_istore E dX6_gains_45 (by decide) [(4, vI 1), (3, vI 0), (2, vI 1), (0, .ref (b 0)), (1, vI f)] rfl ?_
        refine jx_aload_n E 3 dX6_gains_47 rfl ?_
        refine jx_iload_n E 4 dX6_gains_48 rfl ?_
        refine jx_iconst E dX6_gains_49 ?_
        refine jx_callVi E [vI f, vI 0] [] (c_X6_it l G b y (f := f) (what := 0) (by omega) (by omega) (by omega) (by omega)) mb_X6_it mv_X6_it wl_X6_49 f_X6 wm_obj dX6_gains_50 ?_
        refine jx_st (st' := [vI ((y 0) (21 + 5 * f))]) (by simp only [Int.add_zero]; first | done | rfl) ?_
        rcases (show (y 0) (21 + 5 * f) = 1 ∨ (y 0) (21 + 5 * f) = 2 ∨ (y 0) (21 + 5 * f) = 3 ∨ (y 0) (21 + 5 * f) = 4 ∨ (y 0) (21 + 5 * f) = 5 ∨ ((y 0) (21 + 5 * f) < 1 ∨ 5 < (y 0) (21 + 5 * f)) by omega) with c11 | c11 | c11 | c11 | c11 | c11
        · skip
          refine jx_tabIn (tgt := 88) (off := 35) E 1 dX6_gains_53 c11 (by unfold inR; decide) (by rfl) (by decide) ?_
          refine jx_iload_n E 1 dX6_gains_88 rfl ?_
          exact jx_iret E hr dX6_gains_89 (by simp only [gainsP]; omega) (by first | rfl | (congr 1; done))
        · skip
          refine jx_tabIn (tgt := 90) (off := 37) E 2 dX6_gains_53 c11 (by unfold inR; decide) (by rfl) (by decide) ?_
          refine jx_iconst E dX6_gains_90 ?_
          exact jx_iret E hr dX6_gains_91 (by simp only [gainsP]; omega) (by first | rfl | (congr 1; done))
        · skip
          refine jx_tabIn (tgt := 92) (off := 39) E 3 dX6_gains_53 c11 (by unfold inR; decide) (by rfl) (by decide) ?_
          refine jx_iload E 0 dX6_gains_92 rfl ?_
          exact jx_iret E hr dX6_gains_94 (by simp only [gainsP]; omega) (by first | rfl | (congr 1; done))
        · skip
          refine jx_tabIn (tgt := 95) (off := 42) E 4 dX6_gains_53 c11 (by unfold inR; decide) (by rfl) (by decide) ?_
          refine jx_iload_n E 1 dX6_gains_95 rfl ?_
          refine jx_iconst E dX6_gains_96 ?_
          refine jx_isub E dX6_gains_97 ?_
          exact jx_iret E hr dX6_gains_98 (by simp only [gainsP]; omega) (by first | rfl | (congr 1; done))
        · skip
          refine jx_tabIn (tgt := 99) (off := 46) E 5 dX6_gains_53 c11 (by unfold inR; decide) (by rfl) (by decide) ?_
          refine jx_iload E 0 dX6_gains_99 rfl ?_
          refine jx_if_ge (tgt := 108) E dX6_gains_101 (by decide) (fun c12 => ?_) (fun c12 => ?_)
          · skip
            refine jx_iload E 0 dX6_gains_108 rfl ?_
            exact jx_iret E hr dX6_gains_110 (by simp only [gainsP]; omega) (by first | rfl | (congr 1; done))
          · skip
            exact absurd c12 (by decide)
        · skip
          refine jx_tabOut (tgt := 111) E dX6_gains_53 c11 (by decide) ?_
          refine jx_iload_n E 2 dX6_gains_111 rfl ?_
          exact jx_iret E hr dX6_gains_112 (by simp only [gainsP]; omega) (by first | rfl | (congr 1; done))
  · skip
    refine jx_iconst E dX6_gains_8 ?_
    refine jx_goto (tgt := 13) E dX6_gains_9 (by decide) ?_
    refine jx_istore_n E dX6_gains_13 (by decide) [(2, vI (-1)), (0, .ref (b 0)), (1, vI f)] rfl ?_
    refine jx_aload_n E 1 dX6_gains_14 rfl ?_
    refine jx_iload_n E 2 dX6_gains_15 rfl ?_
    refine jx_iconst E dX6_gains_16 ?_
    refine jx_callVi E [vI f, vI 1] [] (c_X6_it l G b y (f := f) (what := 1) (by omega) (by omega) (by omega) (by omega)) mb_X6_it mv_X6_it wl_X6_49 f_X6 wm_obj dX6_gains_17 ?_
    refine jx_bipush E dX6_gains_20 ?_
    refine jx_icmp_le (tgt := 29) E dX6_gains_22 (by decide) (fun c13 => ?_) (fun c13 => ?_)
    · skip
      refine jx_iload_n E 0 dX6_gains_29 rfl ?_
      refine jx_istore_n E dX6_gains_30 (by decide) [(3, vI (-1)), (2, vI (-1)), (0, .ref (b 0)), (1, vI f)] rfl ?_
      refine jx_aload_n E 2 dX6_gains_31 rfl ?_
      refine jx_callVi E [] [] (c_X6_isCold l G b y  (by omega) (by omega)) mb_X6_isCold mv_X6_isCold wl_X6_61 f_X6 wm_obj dX6_gains_32 ?_
      refine jx_if_eq (tgt := 42) E dX6_gains_35 (by decide) (fun c14 => ?_) (fun c14 => ?_)
      · skip
        refine jx_iload_n E 1 dX6_gains_42 rfl ?_
        refine jx_iconst E dX6_gains_43 ?_
        refine jx_iadd E dX6_gains_44 ?_
        refine jx_istore E dX6_gains_45 (by decide) [(4, vI ((-1) + 1)), (3, vI (-1)), (2, vI (-1)), (0, .ref (b 0)), (1, vI f)] rfl ?_
        refine jx_aload_n E 3 dX6_gains_47 rfl ?_
        refine jx_iload_n E 4 dX6_gains_48 rfl ?_
        refine jx_iconst E dX6_gains_49 ?_
        refine jx_callVi E [vI f, vI 0] [] (c_X6_it l G b y (f := f) (what := 0) (by omega) (by omega) (by omega) (by omega)) mb_X6_it mv_X6_it wl_X6_49 f_X6 wm_obj dX6_gains_50 ?_
        refine jx_st (st' := [vI ((y 0) (21 + 5 * f))]) (by simp only [Int.add_zero]; first | done | rfl) ?_
        rcases (show (y 0) (21 + 5 * f) = 1 ∨ (y 0) (21 + 5 * f) = 2 ∨ (y 0) (21 + 5 * f) = 3 ∨ (y 0) (21 + 5 * f) = 4 ∨ (y 0) (21 + 5 * f) = 5 ∨ ((y 0) (21 + 5 * f) < 1 ∨ 5 < (y 0) (21 + 5 * f)) by omega) with c15 | c15 | c15 | c15 | c15 | c15
        · skip
          refine jx_tabIn (tgt := 88) (off := 35) E 1 dX6_gains_53 c15 (by unfold inR; decide) (by rfl) (by decide) ?_
          refine jx_iload_n E 1 dX6_gains_88 rfl ?_
          exact jx_iret E hr dX6_gains_89 (by simp only [gainsP]; omega) (by first | rfl | (congr 1; done))
        · skip
          refine jx_tabIn (tgt := 90) (off := 37) E 2 dX6_gains_53 c15 (by unfold inR; decide) (by rfl) (by decide) ?_
          refine jx_iconst E dX6_gains_90 ?_
          exact jx_iret E hr dX6_gains_91 (by simp only [gainsP]; omega) (by first | rfl | (congr 1; done))
        · skip
          refine jx_tabIn (tgt := 92) (off := 39) E 3 dX6_gains_53 c15 (by unfold inR; decide) (by rfl) (by decide) ?_
          refine jx_iload E 0 dX6_gains_92 rfl ?_
          exact jx_iret E hr dX6_gains_94 (by simp only [gainsP]; omega) (by first | rfl | (congr 1; done))
        · skip
          refine jx_tabIn (tgt := 95) (off := 42) E 4 dX6_gains_53 c15 (by unfold inR; decide) (by rfl) (by decide) ?_
          refine jx_iload_n E 1 dX6_gains_95 rfl ?_
          refine jx_iconst E dX6_gains_96 ?_
          refine jx_isub E dX6_gains_97 ?_
          exact jx_iret E hr dX6_gains_98 (by simp only [gainsP]; omega) (by first | rfl | (congr 1; done))
        · skip
          refine jx_tabIn (tgt := 99) (off := 46) E 5 dX6_gains_53 c15 (by unfold inR; decide) (by rfl) (by decide) ?_
          refine jx_iload E 0 dX6_gains_99 rfl ?_
          refine jx_if_ge (tgt := 108) E dX6_gains_101 (by decide) (fun c16 => ?_) (fun c16 => ?_)
          · skip
            refine jx_iload E 0 dX6_gains_108 rfl ?_
            exact jx_iret E hr dX6_gains_110 (by simp only [gainsP]; omega) (by first | rfl | (congr 1; done))
          · skip
            refine jx_iconst E dX6_gains_104 ?_
            refine jx_goto (tgt := 110) E dX6_gains_105 (by decide) ?_
            exact jx_iret E hr dX6_gains_110 (by simp only [gainsP]; omega) (by first | rfl | (congr 1; done))
        · skip
          refine jx_tabOut (tgt := 111) E dX6_gains_53 c15 (by decide) ?_
          refine jx_iload_n E 2 dX6_gains_111 rfl ?_
          exact jx_iret E hr dX6_gains_112 (by simp only [gainsP]; omega) (by first | rfl | (congr 1; done))
      · skip
        refine jx_iload_n E 1 dX6_gains_38 rfl ?_
        refine jx_goto (tgt := 45) E dX6_gains_39 (by decide) ?_
        refine jx_istore E dX6_gains_45 (by decide) [(4, vI (-1)), (3, vI (-1)), (2, vI (-1)), (0, .ref (b 0)), (1, vI f)] rfl ?_
        refine jx_aload_n E 3 dX6_gains_47 rfl ?_
        refine jx_iload_n E 4 dX6_gains_48 rfl ?_
        refine jx_iconst E dX6_gains_49 ?_
        refine jx_callVi E [vI f, vI 0] [] (c_X6_it l G b y (f := f) (what := 0) (by omega) (by omega) (by omega) (by omega)) mb_X6_it mv_X6_it wl_X6_49 f_X6 wm_obj dX6_gains_50 ?_
        refine jx_st (st' := [vI ((y 0) (21 + 5 * f))]) (by simp only [Int.add_zero]; first | done | rfl) ?_
        rcases (show (y 0) (21 + 5 * f) = 1 ∨ (y 0) (21 + 5 * f) = 2 ∨ (y 0) (21 + 5 * f) = 3 ∨ (y 0) (21 + 5 * f) = 4 ∨ (y 0) (21 + 5 * f) = 5 ∨ ((y 0) (21 + 5 * f) < 1 ∨ 5 < (y 0) (21 + 5 * f)) by omega) with c17 | c17 | c17 | c17 | c17 | c17
        · skip
          refine jx_tabIn (tgt := 88) (off := 35) E 1 dX6_gains_53 c17 (by unfold inR; decide) (by rfl) (by decide) ?_
          refine jx_iload_n E 1 dX6_gains_88 rfl ?_
          exact jx_iret E hr dX6_gains_89 (by simp only [gainsP]; omega) (by first | rfl | (congr 1; done))
        · skip
          refine jx_tabIn (tgt := 90) (off := 37) E 2 dX6_gains_53 c17 (by unfold inR; decide) (by rfl) (by decide) ?_
          refine jx_iconst E dX6_gains_90 ?_
          exact jx_iret E hr dX6_gains_91 (by simp only [gainsP]; omega) (by first | rfl | (congr 1; done))
        · skip
          refine jx_tabIn (tgt := 92) (off := 39) E 3 dX6_gains_53 c17 (by unfold inR; decide) (by rfl) (by decide) ?_
          refine jx_iload E 0 dX6_gains_92 rfl ?_
          exact jx_iret E hr dX6_gains_94 (by simp only [gainsP]; omega) (by first | rfl | (congr 1; done))
        · skip
          refine jx_tabIn (tgt := 95) (off := 42) E 4 dX6_gains_53 c17 (by unfold inR; decide) (by rfl) (by decide) ?_
          refine jx_iload_n E 1 dX6_gains_95 rfl ?_
          refine jx_iconst E dX6_gains_96 ?_
          refine jx_isub E dX6_gains_97 ?_
          exact jx_iret E hr dX6_gains_98 (by simp only [gainsP]; omega) (by first | rfl | (congr 1; done))
        · skip
          refine jx_tabIn (tgt := 99) (off := 46) E 5 dX6_gains_53 c17 (by unfold inR; decide) (by rfl) (by decide) ?_
          refine jx_iload E 0 dX6_gains_99 rfl ?_
          refine jx_if_ge (tgt := 108) E dX6_gains_101 (by decide) (fun c18 => ?_) (fun c18 => ?_)
          · skip
            exact absurd c18 (by decide)
          · skip
            refine jx_iconst E dX6_gains_104 ?_
            refine jx_goto (tgt := 110) E dX6_gains_105 (by decide) ?_
            exact jx_iret E hr dX6_gains_110 (by simp only [gainsP]; omega) (by first | rfl | (congr 1; done))
        · skip
          refine jx_tabOut (tgt := 111) E dX6_gains_53 c17 (by decide) ?_
          refine jx_iload_n E 2 dX6_gains_111 rfl ?_
          exact jx_iret E hr dX6_gains_112 (by simp only [gainsP]; omega) (by first | rfl | (congr 1; done))
    · skip
      refine jx_iconst E dX6_gains_25 ?_
      refine jx_goto (tgt := 30) E dX6_gains_26 (by decide) ?_
      refine jx_istore_n E dX6_gains_30 (by decide) [(3, vI 0), (2, vI (-1)), (0, .ref (b 0)), (1, vI f)] rfl ?_
      refine jx_aload_n E 2 dX6_gains_31 rfl ?_
      refine jx_callVi E [] [] (c_X6_isCold l G b y  (by omega) (by omega)) mb_X6_isCold mv_X6_isCold wl_X6_61 f_X6 wm_obj dX6_gains_32 ?_
      refine jx_if_eq (tgt := 42) E dX6_gains_35 (by decide) (fun c19 => ?_) (fun c19 => ?_)
      · skip
        refine jx_iload_n E 1 dX6_gains_42 rfl ?_
        refine jx_iconst E dX6_gains_43 ?_
        refine jx_iadd E dX6_gains_44 ?_
        refine jx_istore E dX6_gains_45 (by decide) [(4, vI ((-1) + 1)), (3, vI 0), (2, vI (-1)), (0, .ref (b 0)), (1, vI f)] rfl ?_
        refine jx_aload_n E 3 dX6_gains_47 rfl ?_
        refine jx_iload_n E 4 dX6_gains_48 rfl ?_
        refine jx_iconst E dX6_gains_49 ?_
        refine jx_callVi E [vI f, vI 0] [] (c_X6_it l G b y (f := f) (what := 0) (by omega) (by omega) (by omega) (by omega)) mb_X6_it mv_X6_it wl_X6_49 f_X6 wm_obj dX6_gains_50 ?_
        refine jx_st (st' := [vI ((y 0) (21 + 5 * f))]) (by simp only [Int.add_zero]; first | done | rfl) ?_
        rcases (show (y 0) (21 + 5 * f) = 1 ∨ (y 0) (21 + 5 * f) = 2 ∨ (y 0) (21 + 5 * f) = 3 ∨ (y 0) (21 + 5 * f) = 4 ∨ (y 0) (21 + 5 * f) = 5 ∨ ((y 0) (21 + 5 * f) < 1 ∨ 5 < (y 0) (21 + 5 * f)) by omega) with c20 | c20 | c20 | c20 | c20 | c20
        · skip
          refine jx_tabIn (tgt := 88) (off := 35) E 1 dX6_gains_53 c20 (by unfold inR; decide) (by rfl) (by decide) ?_
          refine jx_iload_n E 1 dX6_gains_88 rfl ?_
          exact jx_iret E hr dX6_gains_89 (by simp only [gainsP]; omega) (by first | rfl | (congr 1; done))
        · skip
          refine jx_tabIn (tgt := 90) (off := 37) E 2 dX6_gains_53 c20 (by unfold inR; decide) (by rfl) (by decide) ?_
          refine jx_iconst E dX6_gains_90 ?_
          exact jx_iret E hr dX6_gains_91 (by simp only [gainsP]; omega) (by first | rfl | (congr 1; done))
        · skip
          refine jx_tabIn (tgt := 92) (off := 39) E 3 dX6_gains_53 c20 (by unfold inR; decide) (by rfl) (by decide) ?_
          refine jx_iload E 0 dX6_gains_92 rfl ?_
          exact jx_iret E hr dX6_gains_94 (by simp only [gainsP]; omega) (by first | rfl | (congr 1; done))
        · skip
          refine jx_tabIn (tgt := 95) (off := 42) E 4 dX6_gains_53 c20 (by unfold inR; decide) (by rfl) (by decide) ?_
          refine jx_iload_n E 1 dX6_gains_95 rfl ?_
          refine jx_iconst E dX6_gains_96 ?_
          refine jx_isub E dX6_gains_97 ?_
          exact jx_iret E hr dX6_gains_98 (by simp only [gainsP]; omega) (by first | rfl | (congr 1; done))
        · skip
          refine jx_tabIn (tgt := 99) (off := 46) E 5 dX6_gains_53 c20 (by unfold inR; decide) (by rfl) (by decide) ?_
          refine jx_iload E 0 dX6_gains_99 rfl ?_
          refine jx_if_ge (tgt := 108) E dX6_gains_101 (by decide) (fun c21 => ?_) (fun c21 => ?_)
          · skip
            refine jx_iload E 0 dX6_gains_108 rfl ?_
            exact jx_iret E hr dX6_gains_110 (by simp only [gainsP]; omega) (by first | rfl | (congr 1; done))
          · skip
            refine jx_iconst E dX6_gains_104 ?_
            refine jx_goto (tgt := 110) E dX6_gains_105 (by decide) ?_
            exact jx_iret E hr dX6_gains_110 (by simp only [gainsP]; omega) (by first | rfl | (congr 1; done))
        · skip
          refine jx_tabOut (tgt := 111) E dX6_gains_53 c20 (by decide) ?_
          refine jx_iload_n E 2 dX6_gains_111 rfl ?_
          exact jx_iret E hr dX6_gains_112 (by simp only [gainsP]; omega) (by first | rfl | (congr 1; done))
      · skip
        refine jx_iload_n E 1 dX6_gains_38 rfl ?_
        refine jx_goto (tgt := 45) E dX6_gains_39 (by decide) ?_
        refine jx_istore E dX6_gains_45 (by decide) [(4, vI (-1)), (3, vI 0), (2, vI (-1)), (0, .ref (b 0)), (1, vI f)] rfl ?_
        refine jx_aload_n E 3 dX6_gains_47 rfl ?_
        refine jx_iload_n E 4 dX6_gains_48 rfl ?_
        refine jx_iconst E dX6_gains_49 ?_
        refine jx_callVi E [vI f, vI 0] [] (c_X6_it l G b y (f := f) (what := 0) (by omega) (by omega) (by omega) (by omega)) mb_X6_it mv_X6_it wl_X6_49 f_X6 wm_obj dX6_gains_50 ?_
        refine jx_st (st' := [vI ((y 0) (21 + 5 * f))]) (by simp only [Int.add_zero]; first | done | rfl) ?_
        rcases (show (y 0) (21 + 5 * f) = 1 ∨ (y 0) (21 + 5 * f) = 2 ∨ (y 0) (21 + 5 * f) = 3 ∨ (y 0) (21 + 5 * f) = 4 ∨ (y 0) (21 + 5 * f) = 5 ∨ ((y 0) (21 + 5 * f) < 1 ∨ 5 < (y 0) (21 + 5 * f)) by omega) with c22 | c22 | c22 | c22 | c22 | c22
        · skip
          refine jx_tabIn (tgt := 88) (off := 35) E 1 dX6_gains_53 c22 (by unfold inR; decide) (by rfl) (by decide) ?_
          refine jx_iload_n E 1 dX6_gains_88 rfl ?_
          exact jx_iret E hr dX6_gains_89 (by simp only [gainsP]; omega) (by first | rfl | (congr 1; done))
        · skip
          refine jx_tabIn (tgt := 90) (off := 37) E 2 dX6_gains_53 c22 (by unfold inR; decide) (by rfl) (by decide) ?_
          refine jx_iconst E dX6_gains_90 ?_
          exact jx_iret E hr dX6_gains_91 (by simp only [gainsP]; omega) (by first | rfl | (congr 1; done))
        · skip
          refine jx_tabIn (tgt := 92) (off := 39) E 3 dX6_gains_53 c22 (by unfold inR; decide) (by rfl) (by decide) ?_
          refine jx_iload E 0 dX6_gains_92 rfl ?_
          exact jx_iret E hr dX6_gains_94 (by simp only [gainsP]; omega) (by first | rfl | (congr 1; done))
        · skip
          refine jx_tabIn (tgt := 95) (off := 42) E 4 dX6_gains_53 c22 (by unfold inR; decide) (by rfl) (by decide) ?_
          refine jx_iload_n E 1 dX6_gains_95 rfl ?_
          refine jx_iconst E dX6_gains_96 ?_
          refine jx_isub E dX6_gains_97 ?_
          exact jx_iret E hr dX6_gains_98 (by simp only [gainsP]; omega) (by first | rfl | (congr 1; done))
        · skip
          refine jx_tabIn (tgt := 99) (off := 46) E 5 dX6_gains_53 c22 (by unfold inR; decide) (by rfl) (by decide) ?_
          refine jx_iload E 0 dX6_gains_99 rfl ?_
          refine jx_if_ge (tgt := 108) E dX6_gains_101 (by decide) (fun c23 => ?_) (fun c23 => ?_)
          · skip
            exact absurd c23 (by decide)
          · skip
            refine jx_iconst E dX6_gains_104 ?_
            refine jx_goto (tgt := 110) E dX6_gains_105 (by decide) ?_
            exact jx_iret E hr dX6_gains_110 (by simp only [gainsP]; omega) (by first | rfl | (congr 1; done))
        · skip
          refine jx_tabOut (tgt := 111) E dX6_gains_53 c22 (by decide) ?_
          refine jx_iload_n E 2 dX6_gains_111 rfl ?_
          exact jx_iret E hr dX6_gains_112 (by simp only [gainsP]; omega) (by first | rfl | (congr 1; done))
set_option maxHeartbeats 4000000 in
theorem c_X6_givesWay (l : Launch) (G : GT) (b : Nat → Nat) (y : MS) {f : Int} (h1 : 0 ≤ f) (h2 : f < 8) (h3 : VF (y 0) f) : CtI l G yX6_givesWay cX6_givesWay 3 (some .int) 2 [.ref (b 0), vI f] (wsM G b y) (givesP (y 0) f) (wsM G b y) := by
  obtain ⟨k1, k2, k3, k4, k5⟩ := id h3
  refine CtI.of (by decide) (Nat.le_of_ble_eq_true rfl) ?_
  intro p e s m args below meth c A E hr
  refine jx_lv (lv' := [(0, .ref (b 0)), (1, vI f)]) [0, 1] rfl ?_
  refine jx_aload_n E 0 dX6_givesWay_0 rfl ?_
  refine jx_iload_n E 1 dX6_givesWay_1 rfl ?_
  refine jx_iconst E dX6_givesWay_2 ?_
  refine jx_callVi E [vI f, vI 1] [] (c_X6_it l G b y (f := f) (what := 1) (by omega) (by omega) (by omega) (by omega)) mb_X6_it mv_X6_it wl_X6_49 f_X6 wm_obj dX6_givesWay_3 ?_
  refine jx_aload_n E 0 dX6_givesWay_6 rfl ?_
  refine jx_iload_n E 1 dX6_givesWay_7 rfl ?_
  refine jx_iconst E dX6_givesWay_8 ?_
  refine jx_callVi E [vI f, vI 3] [vI ((y 0) (21 + 5 * f + 1))] (c_X6_it l G b y (f := f) (what := 3) (by omega) (by omega) (by omega) (by omega)) mb_X6_it mv_X6_it wl_X6_49 f_X6 wm_obj dX6_givesWay_9 ?_
  refine jx_isub E dX6_givesWay_12 ?_
  refine jx_istore_n E dX6_givesWay_13 (by decide) [(2, vI (((y 0) (21 + 5 * f + 1)) - ((y 0) (21 + 5 * f + 3)))), (0, .ref (b 0)), (1, vI f)] rfl ?_
  refine jx_aload_n E 1 dX6_givesWay_14 rfl ?_
  refine jx_iload_n E 2 dX6_givesWay_15 rfl ?_
  refine jx_iconst E dX6_givesWay_16 ?_
  refine jx_callVi E [vI f, vI 0] [] (c_X6_it l G b y (f := f) (what := 0) (by omega) (by omega) (by omega) (by omega)) mb_X6_it mv_X6_it wl_X6_49 f_X6 wm_obj dX6_givesWay_17 ?_
  refine jx_st (st' := [vI ((y 0) (21 + 5 * f))]) (by simp only [Int.add_zero]; first | done | rfl) ?_
  rcases (show (y 0) (21 + 5 * f) = 1 ∨ (y 0) (21 + 5 * f) = 2 ∨ (y 0) (21 + 5 * f) = 3 ∨ (y 0) (21 + 5 * f) = 4 ∨ (y 0) (21 + 5 * f) = 5 ∨ ((y 0) (21 + 5 * f) < 1 ∨ 5 < (y 0) (21 + 5 * f)) by omega) with c1 | c1 | c1 | c1 | c1 | c1
  · skip
    refine jx_tabIn (tgt := 56) (off := 36) E 1 dX6_givesWay_20 c1 (by unfold inR; decide) (by rfl) (by decide) ?_
    refine jx_iload_n E 0 dX6_givesWay_56 rfl ?_
    refine jx_bipush E dX6_givesWay_57 ?_
    refine jx_isub E dX6_givesWay_59 ?_
    exact jx_iret E hr dX6_givesWay_60 (by simp only [givesP]; omega) (by first | rfl | (congr 1; done))
  · skip
    refine jx_tabIn (tgt := 88) (off := 68) E 2 dX6_givesWay_20 c1 (by unfold inR; decide) (by rfl) (by decide) ?_
    refine jx_iload_n E 0 dX6_givesWay_88 rfl ?_
    exact jx_iret E hr dX6_givesWay_89 (by simp only [givesP]; omega) (by first | rfl | (congr 1; done))
  · skip
    refine jx_tabIn (tgt := 61) (off := 41) E 3 dX6_givesWay_20 c1 (by unfold inR; decide) (by rfl) (by decide) ?_
    refine jx_sipush E dX6_givesWay_61 ?_
    refine jx_aload_n E 1 dX6_givesWay_64 rfl ?_
    refine jx_iload_n E 2 dX6_givesWay_65 rfl ?_
    refine jx_iconst E dX6_givesWay_66 ?_
    refine jx_callVi E [vI f, vI 3] [vI (-200)] (c_X6_it l G b y (f := f) (what := 3) (by omega) (by omega) (by omega) (by omega)) mb_X6_it mv_X6_it wl_X6_49 f_X6 wm_obj dX6_givesWay_67 ?_
    refine jx_isub E dX6_givesWay_70 ?_
    exact jx_iret E hr dX6_givesWay_71 (by simp only [givesP]; omega) (by first | rfl | (congr 1; done))
  · skip
    refine jx_tabIn (tgt := 72) (off := 52) E 4 dX6_givesWay_20 c1 (by unfold inR; decide) (by rfl) (by decide) ?_
    refine jx_iload_n E 0 dX6_givesWay_72 rfl ?_
    refine jx_bipush E dX6_givesWay_73 ?_
    refine jx_isub E dX6_givesWay_75 ?_
    exact jx_iret E hr dX6_givesWay_76 (by simp only [givesP]; omega) (by first | rfl | (congr 1; done))
  · skip
    refine jx_tabIn (tgt := 77) (off := 57) E 5 dX6_givesWay_20 c1 (by unfold inR; decide) (by rfl) (by decide) ?_
    refine jx_sipush E dX6_givesWay_77 ?_
    refine jx_aload_n E 1 dX6_givesWay_80 rfl ?_
    refine jx_iload_n E 2 dX6_givesWay_81 rfl ?_
    refine jx_iconst E dX6_givesWay_82 ?_
    refine jx_callVi E [vI f, vI 3] [vI (-400)] (c_X6_it l G b y (f := f) (what := 3) (by omega) (by omega) (by omega) (by omega)) mb_X6_it mv_X6_it wl_X6_49 f_X6 wm_obj dX6_givesWay_83 ?_
    refine jx_isub E dX6_givesWay_86 ?_
    exact jx_iret E hr dX6_givesWay_87 (by simp only [givesP]; omega) (by first | rfl | (congr 1; done))
  · skip
    refine jx_tabOut (tgt := 88) E dX6_givesWay_20 c1 (by decide) ?_
    refine jx_iload_n E 0 dX6_givesWay_88 rfl ?_
    exact jx_iret E hr dX6_givesWay_89 (by simp only [givesP]; omega) (by first | rfl | (congr 1; done))
