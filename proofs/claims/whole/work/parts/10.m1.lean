/-! 10.m1: laid by the walker out of specM1 -/
set_option maxHeartbeats 4000000 in
theorem c_X6_it (l : Launch) (G : GT) (b : Nat → Nat) (y : MS) {f what : Int} (h1 : 0 ≤ f) (h2 : f < 8) (h3 : 0 ≤ what) (h4 : what < 5) : CtI l G yX6_it cX6_it 3 (some .int) 1 [.ref (b 0), vI f, vI what] (wsM G b y) ((y 0) (21 + 5 * f + what)) (wsM G b y) := by
  refine CtI.of (by decide) (Nat.le_of_ble_eq_true rfl) ?_
  intro p e s m args below meth c A E hr
  refine jx_lv (lv' := [(0, .ref (b 0)), (1, vI f), (2, vI what)]) [0, 1, 2] rfl ?_
  refine jx_aload_n E 0 dX6_it_0 rfl ?_
  refine jx_get E f_X6 0 (v := .ref (b 1)) wm_obj (by decide) wf_X6_9 rfl dX6_it_1 ?_
  refine jx_bipush E dX6_it_4 ?_
  refine jx_iconst E dX6_it_6 ?_
  refine jx_iload_n E 1 dX6_it_7 rfl ?_
  refine jx_imul E dX6_it_8 ?_
  refine jx_iadd E dX6_it_9 ?_
  refine jx_iload_n E 2 dX6_it_10 rfl ?_
  refine jx_iadd E dX6_it_11 ?_
  refine jx_iald E (v := (y 0) ((21 + (5 * f)) + what)) wm_m (row0_at (by omega) (by omega)) (by omega) (by omega) (by decide) dX6_it_12 ?_
  exact jx_iret E hr dX6_it_13 (by first | rfl | omega) (by first | rfl | (congr 1; done))
set_option maxHeartbeats 4000000 in
theorem c_X6_put (l : Launch) (G : GT) (b : Nat → Nat) (y : MS) {f what v : Int} (h1 : 0 ≤ f) (h2 : f < 8) (h3 : 0 ≤ what) (h4 : what < 5) : CtV l G yX6_put cX6_put 4 none 1 [.ref (b 0), vI f, vI what, vI v] (wsM G b y) (wsM G b (setc y 0 (updI (y 0) (21 + 5 * f + what) v))) := by
  refine CtV.of (by decide) (Nat.le_of_ble_eq_true rfl) ?_
  intro p e s m args below meth c A E hr
  refine jx_lv (lv' := [(0, .ref (b 0)), (1, vI f), (2, vI what), (3, vI v)]) [0, 1, 2, 3] rfl ?_
  refine jx_aload_n E 0 dX6_put_0 rfl ?_
  refine jx_get E f_X6 0 (v := .ref (b 1)) wm_obj (by decide) wf_X6_9 rfl dX6_put_1 ?_
  refine jx_bipush E dX6_put_4 ?_
  refine jx_iconst E dX6_put_6 ?_
  refine jx_iload_n E 1 dX6_put_7 rfl ?_
  refine jx_imul E dX6_put_8 ?_
  refine jx_iadd E dX6_put_9 ?_
  refine jx_iload_n E 2 dX6_put_10 rfl ?_
  refine jx_iadd E dX6_put_11 ?_
  refine jx_iload_n E 3 dX6_put_12 rfl ?_
  refine jx_iast E wm_m (wq_m (by omega) (by omega)) (by omega) (by omega) (by decide) dX6_put_13 ?_
  exact jx_vret E hr dX6_put_14 (by first | rfl | (congr 1; done))
set_option maxHeartbeats 4000000 in
theorem c_X6_weekNow (l : Launch) (G : GT) (b : Nat → Nat) (y : MS) (h1 : 0 ≤ y 0 0) (h2 : y 0 0 ≤ 2000000) : CtI l G yX6_weekNow cX6_weekNow 1 (some .int) 1 [.ref (b 0)] (wsM G b y) (weekP (y 0)) (wsM G b y) := by
  refine CtI.of (by decide) (Nat.le_of_ble_eq_true rfl) ?_
  intro p e s m args below meth c A E hr
  refine jx_lv (lv' := [(0, .ref (b 0))]) [0] rfl ?_
  refine jx_aload_n E 0 dX6_weekNow_0 rfl ?_
  refine jx_get E f_X6 0 (v := .ref (b 1)) wm_obj (by decide) wf_X6_9 rfl dX6_weekNow_1 ?_
  refine jx_iconst E dX6_weekNow_4 ?_
  refine jx_iald E (v := (y 0) 0) wm_m (row0_at (by omega) (by omega)) (by omega) (by omega) (by decide) dX6_weekNow_5 ?_
  refine jx_bipush E dX6_weekNow_6 ?_
  refine jx_idivp E dX6_weekNow_8 ?_
  refine jx_bipush E dX6_weekNow_9 ?_
  refine jx_iremp E dX6_weekNow_11 ?_
  exact jx_iret E hr dX6_weekNow_12 rfl (by first | rfl | (congr 1; done))
set_option maxHeartbeats 4000000 in
theorem c_X6_isCold (l : Launch) (G : GT) (b : Nat → Nat) (y : MS) (h1 : 0 ≤ y 0 0) (h2 : y 0 0 ≤ 2000000) (h3 : 0 ≤ y 0 (13 + weekP (y 0)) ∧ y 0 (13 + weekP (y 0)) ≤ 1) : CtI l G yX6_isCold cX6_isCold 1 (some .boolean) 2 [.ref (b 0)] (wsM G b y) (coldP (y 0)) (wsM G b y) := by
  have hw : 0 ≤ weekP (y 0) ∧ weekP (y 0) < 8 := by unfold weekP; omega
  refine CtI.of (by decide) (Nat.le_of_ble_eq_true rfl) ?_
  intro p e s m args below meth c A E hr
  refine jx_lv (lv' := [(0, .ref (b 0))]) [0] rfl ?_
  refine jx_aload_n E 0 dX6_isCold_0 rfl ?_
  refine jx_get E f_X6 0 (v := .ref (b 1)) wm_obj (by decide) wf_X6_9 rfl dX6_isCold_1 ?_
  refine jx_bipush E dX6_isCold_4 ?_
  refine jx_aload_n E 0 dX6_isCold_6 rfl ?_
  refine jx_callVi E [] [vI 13, .ref (b 1)] (c_X6_weekNow l G b y  (by omega) (by omega)) mb_X6_weekNow mv_X6_weekNow wl_X6_45 f_X6 wm_obj dX6_isCold_7 ?_
  refine jx_iadd E dX6_isCold_10 ?_
  refine jx_iald E (v := (y 0) (13 + (weekP (y 0)))) wm_m (row0_at (by omega) (by omega)) (by omega) (by omega) (by decide) dX6_isCold_11 ?_
  refine jx_iconst E dX6_isCold_12 ?_
  refine jx_icmp_ne (tgt := 20) E dX6_isCold_13 (by decide) (fun c1 => ?_) (fun c1 => ?_)
  · skip
    refine jx_iconst E dX6_isCold_20 ?_
    exact jx_zret E hr dX6_isCold_21 (by simp only [coldP]; first | rw [if_pos (by assumption)] | rw [if_neg (by assumption)]) (by first | rfl | (congr 1; done)) (by first | exact Or.inl rfl | exact Or.inr rfl | omega)
  · skip
    refine jx_iconst E dX6_isCold_16 ?_
    refine jx_goto (tgt := 21) E dX6_isCold_17 (by decide) ?_
    exact jx_zret E hr dX6_isCold_21 (by simp only [coldP]; first | rw [if_pos (by assumption)] | rw [if_neg (by assumption)]) (by first | rfl | (congr 1; done)) (by first | exact Or.inl rfl | exact Or.inr rfl | omega)
set_option maxHeartbeats 4000000 in
theorem c_X6_isOff (l : Launch) (G : GT) (b : Nat → Nat) (y : MS) {f : Int} (h1 : 0 ≤ f) (h2 : f < 8) (h3 : 0 ≤ y 0 (21 + 5 * f + 2) ∧ y 0 (21 + 5 * f + 2) ≤ 1) : CtI l G yX6_isOff cX6_isOff 2 (some .boolean) 2 [.ref (b 0), vI f] (wsM G b y) (if (y 0) (21 + 5 * f + 2) = 1 then 1 else 0) (wsM G b y) := by
  refine CtI.of (by decide) (Nat.le_of_ble_eq_true rfl) ?_
  intro p e s m args below meth c A E hr
  refine jx_lv (lv' := [(0, .ref (b 0)), (1, vI f)]) [0, 1] rfl ?_
  refine jx_aload_n E 0 dX6_isOff_0 rfl ?_
  refine jx_iload_n E 1 dX6_isOff_1 rfl ?_
  refine jx_iconst E dX6_isOff_2 ?_
  refine jx_callVi E [vI f, vI 2] [] (c_X6_it l G b y (f := f) (what := 2) (by omega) (by omega) (by omega) (by omega)) mb_X6_it mv_X6_it wl_X6_49 f_X6 wm_obj dX6_isOff_3 ?_
  refine jx_iconst E dX6_isOff_6 ?_
  refine jx_icmp_ne (tgt := 14) E dX6_isOff_7 (by decide) (fun c1 => ?_) (fun c1 => ?_)
  · skip
    refine jx_iconst E dX6_isOff_14 ?_
    exact jx_zret E hr dX6_isOff_15 (by first | rw [if_pos (by assumption)] | rw [if_neg (by assumption)]) (by first | rfl | (congr 1; done)) (by first | exact Or.inl rfl | exact Or.inr rfl | omega)
  · skip
    refine jx_iconst E dX6_isOff_10 ?_
    refine jx_goto (tgt := 15) E dX6_isOff_11 (by decide) ?_
    exact jx_zret E hr dX6_isOff_15 (by first | rw [if_pos (by assumption)] | rw [if_neg (by assumption)]) (by first | rfl | (congr 1; done)) (by first | exact Or.inl rfl | exact Or.inr rfl | omega)
