/-! 14.m4: laid by the walker out of specM4 -/
theorem of_in {t : Int → Int} {f w d : Int} (h : VT d t) (hV : vFou t f ∧ 0 ≤ w ∧ w ≤ 8) : -1000000001 < ofR t f w := by
  obtain ⟨a1, a2, a3, a4, a5⟩ := h.2.2.2.2.2.2.2 f hV.1.1 hV.1.2
  have hu := uses_in (c := coldP t) (h.2.2.2.2.2.2.2 f hV.1.1 hV.1.2)
  have hh := heard_in (h.2.2.2.2.2.2.2 f hV.1.1 hV.1.2)
  have hg := gains_in (t := t) (i := f) (c := coldP t)
  have hy : -600 ≤ givesP t f ∧ givesP t f ≤ 600 := by simp only [givesP]; omega
  have hk : w = 0 ∨ w = 1 ∨ w = 2 ∨ w = 3 ∨ w = 4 → -1000000001 < t (21 + 5 * f + w) := fun q => by
    rcases q with e | e | e | e | e <;> subst e
    · rw [Int.add_zero]; omega
    all_goals omega
  simp only [ofR, if_pos hV]
  omega
set_option maxHeartbeats 4000000 in
theorem c_X6_water (l : Launch) (G : GT) (b : Nat → Nat) (y : MS) {w v : Int} (h1 : VT 99999 (y 0)) (h2 : inR w) (h3 : inR v) : CtI l G yX6_water cX6_water 3 (some .int) 2 [.ref (b 0), vI w, vI v] (wsM G b y) (waterR (y 0) w v) (wsM G b (endM (if vWater w v then setc y 0 (updI (y 0) (1 + w) v) else y) (waterR (y 0) w v))) := by
  obtain ⟨v0, v1, v2, v3, v4, v5, v6, v7⟩ := id h1
  unfold inR at h2 h3
  have hb : (0 ≤ w ∧ w ≤ 2) → 0 ≤ y 0 (1 + w) := fun q => by rcases (show w = 0 ∨ w = 1 ∨ w = 2 by omega) with e | e | e <;> subst e <;> first | exact v1.1 | exact v2.1 | exact v3.1
  refine CtI.of (by decide) (Nat.le_of_ble_eq_true rfl) ?_
  intro p e s m args below meth c A E hr
  refine jx_lv (lv' := [(0, .ref (b 0)), (1, vI w), (2, vI v)]) [0, 1, 2] rfl ?_
  refine jx_iload_n E 1 dX6_water_0 rfl ?_
  refine jx_i2l E dX6_water_1 ?_
  refine jx_iconst E dX6_water_2 ?_
  refine jx_iconst E dX6_water_3 ?_
  refine jx_callSi E [vL w, vI 0, vI 2] [] (c_X6_in l G (wsM G b y) (v := w) (lo := 0) (hi := 2) (by unfold inL; omega) (by unfold inR; omega) (by unfold inR; omega)) mb_X6_in ms_X6_in wl_X6_41 dX6_water_4 ?_
  refine jx_if_eq (tgt := 33) E dX6_water_7 (by decide) (fun c1 => ?_) (fun c1 => ?_)
  · skip
    refine jx_aload_n E 0 dX6_water_33 rfl ?_
    refine jx_ldc E wc_X6_35 dX6_water_34 ?_
    refine jx_callVi E [vI (-1000000001)] [] (c_X6_finds l G b y (f := (-1000000001)) (by omega)) mb_X6_finds mv_X6_finds wl_X6_37 f_X6 wm_obj dX6_water_36 ?_
    exact jx_iret E hr dX6_water_39 (by have hV : ¬ (vWater w v) := (by omega); simp only [waterR, if_neg hV]) (by have hV : ¬ (vWater w v) := (by omega); simp only [waterR, if_neg hV]; rw [endM_f (by decide)])
  · skip
    refine jx_iload_n E 2 dX6_water_10 rfl ?_
    refine jx_i2l E dX6_water_11 ?_
    refine jx_iconst E dX6_water_12 ?_
    refine jx_sipush E dX6_water_13 ?_
    refine jx_callSi E [vL v, vI 0, vI 9999] [] (c_X6_in l G (wsM G b y) (v := v) (lo := 0) (hi := 9999) (by unfold inL; omega) (by unfold inR; omega) (by unfold inR; omega)) mb_X6_in ms_X6_in wl_X6_41 dX6_water_16 ?_
    refine jx_if_eq (tgt := 33) E dX6_water_19 (by decide) (fun c2 => ?_) (fun c2 => ?_)
    · skip
      refine jx_aload_n E 0 dX6_water_33 rfl ?_
      refine jx_ldc E wc_X6_35 dX6_water_34 ?_
      refine jx_callVi E [vI (-1000000001)] [] (c_X6_finds l G b y (f := (-1000000001)) (by omega)) mb_X6_finds mv_X6_finds wl_X6_37 f_X6 wm_obj dX6_water_36 ?_
      exact jx_iret E hr dX6_water_39 (by have hV : ¬ (vWater w v) := (by omega); simp only [waterR, if_neg hV]) (by have hV : ¬ (vWater w v) := (by omega); simp only [waterR, if_neg hV]; rw [endM_f (by decide)])
    · skip
      refine jx_aload_n E 0 dX6_water_22 rfl ?_
      refine jx_iconst E dX6_water_23 ?_
      refine jx_iload_n E 1 dX6_water_24 rfl ?_
      refine jx_iadd E dX6_water_25 ?_
      refine jx_iload_n E 2 dX6_water_26 rfl ?_
      refine jx_callVi E [vI (1 + w), vI v] [] (c_X6_becomes l G b y (q := 1 + w) (v := v) (by omega) (by omega)) mb_X6_becomes mv_X6_becomes wl_X6_68 f_X6 wm_obj dX6_water_27 ?_
      refine jx_goto (tgt := 39) E dX6_water_30 (by decide) ?_
      exact jx_iret E hr dX6_water_39 (by have hV : vWater w v := (by omega); simp only [waterR, if_pos hV]) (by have hV : vWater w v := (by omega); simp only [waterR, if_pos hV]; rw [endM_n (by omega)])
set_option maxHeartbeats 4000000 in
theorem c_X6_week (l : Launch) (G : GT) (b : Nat → Nat) (y : MS) {k w v : Int} (h1 : VT 99999 (y 0)) (h2 : inR k) (h3 : inR w) (h4 : inR v) : CtI l G yX6_week cX6_week 5 (some .int) 2 [.ref (b 0), vI k, vI w, vI v] (wsM G b y) (weekR (y 0) k w v) (wsM G b (endM (if vWeek k w v then setc y 0 (updI (y 0) (5 + 8 * w + k) v) else y) (weekR (y 0) k w v))) := by
  obtain ⟨v0, v1, v2, v3, v4, v5, v6, v7⟩ := id h1
  unfold inR at h2 h3 h4
  have hb : 0 ≤ k ∧ k ≤ 7 → (0 ≤ w ∧ w ≤ 1) → 0 ≤ y 0 (5 + 8 * w + k) := fun q r => by rcases (show w = 0 ∨ w = 1 by omega) with e | e <;> subst e <;> first | exact (v5 k (by omega) (by omega)).1 | exact (v6 k (by omega) (by omega)).1
  refine CtI.of (by decide) (Nat.le_of_ble_eq_true rfl) ?_
  intro p e s m args below meth c A E hr
  refine jx_lv (lv' := [(0, .ref (b 0)), (1, vI k), (2, vI w), (3, vI v)]) [0, 1, 2, 3] rfl ?_
  have JN47 : ∀ (u : Int), ((u = 1 ∧ vWeek k w v) ∨ (u = 0 ∧ ¬ vWeek k w v)) → JX p l e (rmL 2) s m args below meth c 5 G A 0 0 (QI below args s G A (weekR (y 0) k w v) (wsM G b (endM (if vWeek k w v then setc y 0 (updI (y 0) (5 + 8 * w + k) v) else y) (weekR (y 0) k w v)))) (wsM G b y) 47 [(4, vI u), (0, .ref (b 0)), (1, vI k), (2, vI w), (3, vI v)] [] := by
    intro u hu
    refine jx_iload E 0 dX6_week_47 rfl ?_
    refine jx_if_eq (tgt := 68) E dX6_week_49 (by decide) (fun c1 => ?_) (fun c1 => ?_)
    · skip
      refine jx_aload_n E 1 dX6_week_68 rfl ?_
      refine jx_ldc E wc_X6_35 dX6_week_69 ?_
      refine jx_callVi E [vI (-1000000001)] [] (c_X6_finds l G b y (f := (-1000000001)) (by omega)) mb_X6_finds mv_X6_finds wl_X6_37 f_X6 wm_obj dX6_week_71 ?_
      exact jx_iret E hr dX6_week_74 (by have hV : ¬ (vWeek k w v) := (by omega); simp only [weekR, if_neg hV]) (by have hV : ¬ (vWeek k w v) := (by omega); simp only [weekR, if_neg hV]; rw [endM_f (by decide)])
    · skip
      refine jx_aload_n E 1 dX6_week_52 rfl ?_
      refine jx_iconst E dX6_week_53 ?_
      refine jx_bipush E dX6_week_54 ?_
      refine jx_iload_n E 3 dX6_week_56 rfl ?_
      refine jx_imul E dX6_week_57 ?_
      refine jx_iadd E dX6_week_58 ?_
      refine jx_iload_n E 2 dX6_week_59 rfl ?_
      refine jx_iadd E dX6_week_60 ?_
      refine jx_iload_n E 4 dX6_week_61 rfl ?_
      refine jx_callVi E [vI ((5 + (8 * w)) + k), vI v] [] (c_X6_becomes l G b y (q := (5 + (8 * w)) + k) (v := v) (by omega) (by omega)) mb_X6_becomes mv_X6_becomes wl_X6_68 f_X6 wm_obj dX6_week_62 ?_
      refine jx_goto (tgt := 74) E dX6_week_65 (by decide) ?_
      exact jx_iret E hr dX6_week_74 (by have hV : vWeek k w v := (by omega); simp only [weekR, if_pos hV]) (by have hV : vWeek k w v := (by omega); simp only [weekR, if_pos hV]; rw [endM_n (by omega)])
  refine jx_iload_n E 1 dX6_week_0 rfl ?_
  refine jx_i2l E dX6_week_1 ?_
  refine jx_iconst E dX6_week_2 ?_
  refine jx_bipush E dX6_week_3 ?_
  refine jx_callSi E [vL k, vI 0, vI 7] [] (c_X6_in l G (wsM G b y) (v := k) (lo := 0) (hi := 7) (by unfold inL; omega) (by unfold inR; omega) (by unfold inR; omega)) mb_X6_in ms_X6_in wl_X6_41 dX6_week_5 ?_
  refine jx_if_eq (tgt := 44) E dX6_week_8 (by decide) (fun c2 => ?_) (fun c2 => ?_)
  · skip
    refine jx_iconst E dX6_week_44 ?_
    refine jx_istore E dX6_week_45 (by decide) [(4, vI 0), (0, .ref (b 0)), (1, vI k), (2, vI w), (3, vI v)] rfl ?_
    exact JN47 _ (by omega)
  · skip
    refine jx_iload_n E 2 dX6_week_11 rfl ?_
    refine jx_i2l E dX6_week_12 ?_
    refine jx_iconst E dX6_week_13 ?_
    refine jx_iconst E dX6_week_14 ?_
    refine jx_callSi E [vL w, vI 0, vI 1] [] (c_X6_in l G (wsM G b y) (v := w) (lo := 0) (hi := 1) (by unfold inL; omega) (by unfold inR; omega) (by unfold inR; omega)) mb_X6_in ms_X6_in wl_X6_41 dX6_week_15 ?_
    refine jx_if_eq (tgt := 44) E dX6_week_18 (by decide) (fun c3 => ?_) (fun c3 => ?_)
    · skip
      refine jx_iconst E dX6_week_44 ?_
      refine jx_istore E dX6_week_45 (by decide) [(4, vI 0), (0, .ref (b 0)), (1, vI k), (2, vI w), (3, vI v)] rfl ?_
      exact JN47 _ (by omega)
    · skip
      have JN34 : ∀ (u : Int), (u = if w = 0 then 99 else 1) → JX p l e (rmL 2) s m args below meth c 5 G A 0 0 (QI below args s G A (weekR (y 0) k w v) (wsM G b (endM (if vWeek k w v then setc y 0 (updI (y 0) (5 + 8 * w + k) v) else y) (weekR (y 0) k w v)))) (wsM G b y) 34 [(0, .ref (b 0)), (1, vI k), (2, vI w), (3, vI v)] [vI u, vI 0, vL v] := by
        intro u hu
        refine jx_callSi E [vL v, vI 0, vI u] [] (c_X6_in l G (wsM G b y) (v := v) (lo := 0) (hi := u) (by unfold inL; omega) (by unfold inR; omega) (by unfold inR; omega)) mb_X6_in ms_X6_in wl_X6_41 dX6_week_34 ?_
        refine jx_if_eq (tgt := 44) E dX6_week_37 (by decide) (fun c4 => ?_) (fun c4 => ?_)
        · skip
          refine jx_iconst E dX6_week_44 ?_
          refine jx_istore E dX6_week_45 (by decide) [(4, vI 0), (0, .ref (b 0)), (1, vI k), (2, vI w), (3, vI v)] rfl ?_
          exact JN47 _ (by omega)
        · skip
          refine jx_iconst E dX6_week_40 ?_
          refine jx_goto (tgt := 45) E dX6_week_41 (by decide) ?_
          refine jx_istore E dX6_week_45 (by decide) [(4, vI 1), (0, .ref (b 0)), (1, vI k), (2, vI w), (3, vI v)] rfl ?_
          exact JN47 _ (by omega)
      refine jx_iload_n E 3 dX6_week_21 rfl ?_
      refine jx_i2l E dX6_week_22 ?_
      refine jx_iconst E dX6_week_23 ?_
      refine jx_iload_n E 2 dX6_week_24 rfl ?_
      refine jx_if_ne (tgt := 33) E dX6_week_25 (by decide) (fun c5 => ?_) (fun c5 => ?_)
      · skip
        refine jx_iconst E dX6_week_33 ?_
        exact JN34 _ (by omega)
      · skip
        refine jx_bipush E dX6_week_28 ?_
        refine jx_goto (tgt := 34) E dX6_week_30 (by decide) ?_
        exact JN34 _ (by omega)
set_option maxHeartbeats 4000000 in
theorem c_X6_now (l : Launch) (G : GT) (b : Nat → Nat) (y : MS) {w : Int} (h1 : VT 99999 (y 0)) (h2 : inR w) : CtI l G yX6_now cX6_now 2 (some .int) 5 [.ref (b 0), vI w] (wsM G b y) (nowR (y 0) w) (wsM G b (endM y (nowR (y 0) w))) := by
  obtain ⟨v0, v1, v2, v3, v4, v5, v6, v7⟩ := id h1
  unfold inR at h2
  have hw := week_in h1
  have hn := noise_in h1
  have h5 := v5 _ hw.1 hw.2
  have h6 := v6 _ hw.1 hw.2
  have ho := offsN_in (t := y 0) (y 0 4).toNat (fun i a b => (v7 i a (by omega)).2.2.1)
  have hu := sum_in (f := fun i => usesP (y 0) i (coldP (y 0))) (M := 80) (y 0 4).toNat (fun i a b => uses_in (v7 i a (by omega)))
  have hvv : VV (y 0) := VT_up h1 (by omega)
  refine CtI.of (by decide) (Nat.le_of_ble_eq_true rfl) ?_
  intro p e s m args below meth c A E hr
  refine jx_lv (lv' := [(0, .ref (b 0)), (1, vI w)]) [0, 1] rfl ?_
  refine jx_iload_n E 1 dX6_now_0 rfl ?_
  rcases (show w = 0 ∨ w = 1 ∨ w = 2 ∨ w = 3 ∨ w = 4 ∨ w = 5 ∨ w = 6 ∨ w = 7 ∨ w = 8 ∨ w = 9 ∨ (w < 0 ∨ 9 < w) by omega) with c1 | c1 | c1 | c1 | c1 | c1 | c1 | c1 | c1 | c1 | c1
  · skip
    refine jx_tabIn (tgt := 56) (off := 55) E 0 dX6_now_1 c1 (by unfold inR; decide) (by rfl) (by decide) ?_
    refine jx_aload_n E 0 dX6_now_56 rfl ?_
    refine jx_get E f_X6 0 (v := .ref (b 1)) wm_obj (by decide) wf_X6_9 rfl dX6_now_57 ?_
    refine jx_iconst E dX6_now_60 ?_
    refine jx_iald E (v := (y 0) 0) wm_m (row0_at (by omega) (by omega)) (by omega) (by omega) (by decide) dX6_now_61 ?_
    exact jx_iret E hr dX6_now_62 (by simp only [nowR]; rcases (show w = 0 ∨ w = 1 ∨ w = 2 ∨ w = 3 ∨ w = 4 ∨ w = 5 ∨ w = 6 ∨ w = 7 ∨ w = 8 ∨ w = 9 ∨ (w < 0 ∨ 9 < w) by omega) with e | e | e | e | e | e | e | e | e | e | e <;> first | (exfalso; omega) | (subst e; rfl) | (repeat rw [if_neg (by omega)])) (by rw [endM_n (by rw [show nowR (y 0) w = (y 0) 0 from by simp only [nowR]; rcases (show w = 0 ∨ w = 1 ∨ w = 2 ∨ w = 3 ∨ w = 4 ∨ w = 5 ∨ w = 6 ∨ w = 7 ∨ w = 8 ∨ w = 9 by omega) with e | e | e | e | e | e | e | e | e | e <;> first | (exfalso; omega) | (subst e; rfl)]; first | omega | (unfold allUseP; omega) | (rcases (show w = 2 ∨ w = 3 ∨ w = 4 by omega) with e | e | e <;> subst e <;> first | exact (Int.lt_of_lt_of_le (by decide) v1.1) | exact (Int.lt_of_lt_of_le (by decide) v2.1) | exact (Int.lt_of_lt_of_le (by decide) v3.1)))])
  · skip
    refine jx_tabIn (tgt := 63) (off := 62) E 1 dX6_now_1 c1 (by unfold inR; decide) (by rfl) (by decide) ?_
    refine jx_aload_n E 0 dX6_now_63 rfl ?_
    refine jx_callVi E [] [] (c_X6_weekNow l G b y  (by omega)) mb_X6_weekNow mv_X6_weekNow wl_X6_45 f_X6 wm_obj dX6_now_64 ?_
    exact jx_iret E hr dX6_now_67 (by simp only [nowR]; rcases (show w = 0 ∨ w = 1 ∨ w = 2 ∨ w = 3 ∨ w = 4 ∨ w = 5 ∨ w = 6 ∨ w = 7 ∨ w = 8 ∨ w = 9 ∨ (w < 0 ∨ 9 < w) by omega) with e | e | e | e | e | e | e | e | e | e | e <;> first | (exfalso; omega) | (subst e; rfl) | (repeat rw [if_neg (by omega)])) (by rw [endM_n (by rw [show nowR (y 0) w = weekP (y 0) from by simp only [nowR]; rcases (show w = 0 ∨ w = 1 ∨ w = 2 ∨ w = 3 ∨ w = 4 ∨ w = 5 ∨ w = 6 ∨ w = 7 ∨ w = 8 ∨ w = 9 by omega) with e | e | e | e | e | e | e | e | e | e <;> first | (exfalso; omega) | (subst e; rfl)]; first | omega | (unfold allUseP; omega) | (rcases (show w = 2 ∨ w = 3 ∨ w = 4 by omega) with e | e | e <;> subst e <;> first | exact (Int.lt_of_lt_of_le (by decide) v1.1) | exact (Int.lt_of_lt_of_le (by decide) v2.1) | exact (Int.lt_of_lt_of_le (by decide) v3.1)))])
  · skip
    refine jx_tabIn (tgt := 68) (off := 67) E 2 dX6_now_1 c1 (by unfold inR; decide) (by rfl) (by decide) ?_
    refine jx_aload_n E 0 dX6_now_68 rfl ?_
    refine jx_get E f_X6 0 (v := .ref (b 1)) wm_obj (by decide) wf_X6_9 rfl dX6_now_69 ?_
    refine jx_iconst E dX6_now_72 ?_
    refine jx_iload_n E 1 dX6_now_73 rfl ?_
    refine jx_iadd E dX6_now_74 ?_
    refine jx_iconst E dX6_now_75 ?_
    refine jx_isub E dX6_now_76 ?_
    refine jx_iald E (v := (y 0) ((1 + w) - 2)) wm_m (row0_at (by omega) (by omega)) (by omega) (by omega) (by decide) dX6_now_77 ?_
    exact jx_iret E hr dX6_now_78 (by simp only [nowR]; rcases (show w = 0 ∨ w = 1 ∨ w = 2 ∨ w = 3 ∨ w = 4 ∨ w = 5 ∨ w = 6 ∨ w = 7 ∨ w = 8 ∨ w = 9 ∨ (w < 0 ∨ 9 < w) by omega) with e | e | e | e | e | e | e | e | e | e | e <;> first | (exfalso; omega) | (subst e; rfl) | (repeat rw [if_neg (by omega)])) (by rw [endM_n (by rw [show nowR (y 0) w = (y 0) ((1 + w) - 2) from by simp only [nowR]; rcases (show w = 0 ∨ w = 1 ∨ w = 2 ∨ w = 3 ∨ w = 4 ∨ w = 5 ∨ w = 6 ∨ w = 7 ∨ w = 8 ∨ w = 9 by omega) with e | e | e | e | e | e | e | e | e | e <;> first | (exfalso; omega) | (subst e; rfl)]; first | omega | (unfold allUseP; omega) | (rcases (show w = 2 ∨ w = 3 ∨ w = 4 by omega) with e | e | e <;> subst e <;> first | exact (Int.lt_of_lt_of_le (by decide) v1.1) | exact (Int.lt_of_lt_of_le (by decide) v2.1) | exact (Int.lt_of_lt_of_le (by decide) v3.1)))])
  · skip
    refine jx_tabIn (tgt := 68) (off := 67) E 3 dX6_now_1 c1 (by unfold inR; decide) (by rfl) (by decide) ?_
    refine jx_aload_n E 0 dX6_now_68 rfl ?_
    refine jx_get E f_X6 0 (v := .ref (b 1)) wm_obj (by decide) wf_X6_9 rfl dX6_now_69 ?_
    refine jx_iconst E dX6_now_72 ?_
    refine jx_iload_n E 1 dX6_now_73 rfl ?_
    refine jx_iadd E dX6_now_74 ?_
    refine jx_iconst E dX6_now_75 ?_
    refine jx_isub E dX6_now_76 ?_
    refine jx_iald E (v := (y 0) ((1 + w) - 2)) wm_m (row0_at (by omega) (by omega)) (by omega) (by omega) (by decide) dX6_now_77 ?_
    exact jx_iret E hr dX6_now_78 (by simp only [nowR]; rcases (show w = 0 ∨ w = 1 ∨ w = 2 ∨ w = 3 ∨ w = 4 ∨ w = 5 ∨ w = 6 ∨ w = 7 ∨ w = 8 ∨ w = 9 ∨ (w < 0 ∨ 9 < w) by omega) with e | e | e | e | e | e | e | e | e | e | e <;> first | (exfalso; omega) | (subst e; rfl) | (repeat rw [if_neg (by omega)])) (by rw [endM_n (by rw [show nowR (y 0) w = (y 0) ((1 + w) - 2) from by simp only [nowR]; rcases (show w = 0 ∨ w = 1 ∨ w = 2 ∨ w = 3 ∨ w = 4 ∨ w = 5 ∨ w = 6 ∨ w = 7 ∨ w = 8 ∨ w = 9 by omega) with e | e | e | e | e | e | e | e | e | e <;> first | (exfalso; omega) | (subst e; rfl)]; first | omega | (unfold allUseP; omega) | (rcases (show w = 2 ∨ w = 3 ∨ w = 4 by omega) with e | e | e <;> subst e <;> first | exact (Int.lt_of_lt_of_le (by decide) v1.1) | exact (Int.lt_of_lt_of_le (by decide) v2.1) | exact (Int.lt_of_lt_of_le (by decide) v3.1)))])
  · skip
    refine jx_tabIn (tgt := 68) (off := 67) E 4 dX6_now_1 c1 (by unfold inR; decide) (by rfl) (by decide) ?_
    refine jx_aload_n E 0 dX6_now_68 rfl ?_
    refine jx_get E f_X6 0 (v := .ref (b 1)) wm_obj (by decide) wf_X6_9 rfl dX6_now_69 ?_
    refine jx_iconst E dX6_now_72 ?_
    refine jx_iload_n E 1 dX6_now_73 rfl ?_
    refine jx_iadd E dX6_now_74 ?_
    refine jx_iconst E dX6_now_75 ?_
    refine jx_isub E dX6_now_76 ?_
    refine jx_iald E (v := (y 0) ((1 + w) - 2)) wm_m (row0_at (by omega) (by omega)) (by omega) (by omega) (by decide) dX6_now_77 ?_
    exact jx_iret E hr dX6_now_78 (by simp only [nowR]; rcases (show w = 0 ∨ w = 1 ∨ w = 2 ∨ w = 3 ∨ w = 4 ∨ w = 5 ∨ w = 6 ∨ w = 7 ∨ w = 8 ∨ w = 9 ∨ (w < 0 ∨ 9 < w) by omega) with e | e | e | e | e | e | e | e | e | e | e <;> first | (exfalso; omega) | (subst e; rfl) | (repeat rw [if_neg (by omega)])) (by rw [endM_n (by rw [show nowR (y 0) w = (y 0) ((1 + w) - 2) from by simp only [nowR]; rcases (show w = 0 ∨ w = 1 ∨ w = 2 ∨ w = 3 ∨ w = 4 ∨ w = 5 ∨ w = 6 ∨ w = 7 ∨ w = 8 ∨ w = 9 by omega) with e | e | e | e | e | e | e | e | e | e <;> first | (exfalso; omega) | (subst e; rfl)]; first | omega | (unfold allUseP; omega) | (rcases (show w = 2 ∨ w = 3 ∨ w = 4 by omega) with e | e | e <;> subst e <;> first | exact (Int.lt_of_lt_of_le (by decide) v1.1) | exact (Int.lt_of_lt_of_le (by decide) v2.1) | exact (Int.lt_of_lt_of_le (by decide) v3.1)))])
  · skip
    refine jx_tabIn (tgt := 79) (off := 78) E 5 dX6_now_1 c1 (by unfold inR; decide) (by rfl) (by decide) ?_
    refine jx_aload_n E 0 dX6_now_79 rfl ?_
    refine jx_get E f_X6 0 (v := .ref (b 1)) wm_obj (by decide) wf_X6_9 rfl dX6_now_80 ?_
    refine jx_iconst E dX6_now_83 ?_
    refine jx_aload_n E 0 dX6_now_84 rfl ?_
    refine jx_callVi E [] [vI 5, .ref (b 1)] (c_X6_weekNow l G b y  (by omega)) mb_X6_weekNow mv_X6_weekNow wl_X6_45 f_X6 wm_obj dX6_now_85 ?_
    refine jx_iadd E dX6_now_88 ?_
    refine jx_iald E (v := (y 0) (5 + (weekP (y 0)))) wm_m (row0_at (by omega) (by omega)) (by omega) (by omega) (by decide) dX6_now_89 ?_
    exact jx_iret E hr dX6_now_90 (by simp only [nowR]; rcases (show w = 0 ∨ w = 1 ∨ w = 2 ∨ w = 3 ∨ w = 4 ∨ w = 5 ∨ w = 6 ∨ w = 7 ∨ w = 8 ∨ w = 9 ∨ (w < 0 ∨ 9 < w) by omega) with e | e | e | e | e | e | e | e | e | e | e <;> first | (exfalso; omega) | (subst e; rfl) | (repeat rw [if_neg (by omega)])) (by rw [endM_n (by rw [show nowR (y 0) w = (y 0) (5 + (weekP (y 0))) from by simp only [nowR]; rcases (show w = 0 ∨ w = 1 ∨ w = 2 ∨ w = 3 ∨ w = 4 ∨ w = 5 ∨ w = 6 ∨ w = 7 ∨ w = 8 ∨ w = 9 by omega) with e | e | e | e | e | e | e | e | e | e <;> first | (exfalso; omega) | (subst e; rfl)]; first | omega | (unfold allUseP; omega) | (rcases (show w = 2 ∨ w = 3 ∨ w = 4 by omega) with e | e | e <;> subst e <;> first | exact (Int.lt_of_lt_of_le (by decide) v1.1) | exact (Int.lt_of_lt_of_le (by decide) v2.1) | exact (Int.lt_of_lt_of_le (by decide) v3.1)))])
  · skip
    refine jx_tabIn (tgt := 91) (off := 90) E 6 dX6_now_1 c1 (by unfold inR; decide) (by rfl) (by decide) ?_
    refine jx_aload_n E 0 dX6_now_91 rfl ?_
    refine jx_get E f_X6 0 (v := .ref (b 1)) wm_obj (by decide) wf_X6_9 rfl dX6_now_92 ?_
    refine jx_bipush E dX6_now_95 ?_
    refine jx_aload_n E 0 dX6_now_97 rfl ?_
    refine jx_callVi E [] [vI 13, .ref (b 1)] (c_X6_weekNow l G b y  (by omega)) mb_X6_weekNow mv_X6_weekNow wl_X6_45 f_X6 wm_obj dX6_now_98 ?_
    refine jx_iadd E dX6_now_101 ?_
    refine jx_iald E (v := (y 0) (13 + (weekP (y 0)))) wm_m (row0_at (by omega) (by omega)) (by omega) (by omega) (by decide) dX6_now_102 ?_
    exact jx_iret E hr dX6_now_103 (by simp only [nowR]; rcases (show w = 0 ∨ w = 1 ∨ w = 2 ∨ w = 3 ∨ w = 4 ∨ w = 5 ∨ w = 6 ∨ w = 7 ∨ w = 8 ∨ w = 9 ∨ (w < 0 ∨ 9 < w) by omega) with e | e | e | e | e | e | e | e | e | e | e <;> first | (exfalso; omega) | (subst e; rfl) | (repeat rw [if_neg (by omega)])) (by rw [endM_n (by rw [show nowR (y 0) w = (y 0) (13 + (weekP (y 0))) from by simp only [nowR]; rcases (show w = 0 ∨ w = 1 ∨ w = 2 ∨ w = 3 ∨ w = 4 ∨ w = 5 ∨ w = 6 ∨ w = 7 ∨ w = 8 ∨ w = 9 by omega) with e | e | e | e | e | e | e | e | e | e <;> first | (exfalso; omega) | (subst e; rfl)]; first | omega | (unfold allUseP; omega) | (rcases (show w = 2 ∨ w = 3 ∨ w = 4 by omega) with e | e | e <;> subst e <;> first | exact (Int.lt_of_lt_of_le (by decide) v1.1) | exact (Int.lt_of_lt_of_le (by decide) v2.1) | exact (Int.lt_of_lt_of_le (by decide) v3.1)))])
  · skip
    refine jx_tabIn (tgt := 104) (off := 103) E 7 dX6_now_1 c1 (by unfold inR; decide) (by rfl) (by decide) ?_
    refine jx_aload_n E 0 dX6_now_104 rfl ?_
    refine jx_callVi E [] [] (c_X6_offOnes l G b y  hvv) mb_X6_offOnes mv_X6_offOnes wl_X6_77 f_X6 wm_obj dX6_now_105 ?_
    exact jx_iret E hr dX6_now_108 (by simp only [nowR]; rcases (show w = 0 ∨ w = 1 ∨ w = 2 ∨ w = 3 ∨ w = 4 ∨ w = 5 ∨ w = 6 ∨ w = 7 ∨ w = 8 ∨ w = 9 ∨ (w < 0 ∨ 9 < w) by omega) with e | e | e | e | e | e | e | e | e | e | e <;> first | (exfalso; omega) | (subst e; rfl) | (repeat rw [if_neg (by omega)])) (by rw [endM_n (by rw [show nowR (y 0) w = offsN (y 0) ((y 0) 4).toNat from by simp only [nowR]; rcases (show w = 0 ∨ w = 1 ∨ w = 2 ∨ w = 3 ∨ w = 4 ∨ w = 5 ∨ w = 6 ∨ w = 7 ∨ w = 8 ∨ w = 9 by omega) with e | e | e | e | e | e | e | e | e | e <;> first | (exfalso; omega) | (subst e; rfl)]; first | omega | (unfold allUseP; omega) | (rcases (show w = 2 ∨ w = 3 ∨ w = 4 by omega) with e | e | e <;> subst e <;> first | exact (Int.lt_of_lt_of_le (by decide) v1.1) | exact (Int.lt_of_lt_of_le (by decide) v2.1) | exact (Int.lt_of_lt_of_le (by decide) v3.1)))])
  · skip
    refine jx_tabIn (tgt := 109) (off := 108) E 8 dX6_now_1 c1 (by unfold inR; decide) (by rfl) (by decide) ?_
    refine jx_aload_n E 0 dX6_now_109 rfl ?_
    refine jx_callVi E [] [] (c_X6_noise l G b y  hvv) mb_X6_noise mv_X6_noise wl_X6_80 f_X6 wm_obj dX6_now_110 ?_
    exact jx_iret E hr dX6_now_113 (by simp only [nowR]; rcases (show w = 0 ∨ w = 1 ∨ w = 2 ∨ w = 3 ∨ w = 4 ∨ w = 5 ∨ w = 6 ∨ w = 7 ∨ w = 8 ∨ w = 9 ∨ (w < 0 ∨ 9 < w) by omega) with e | e | e | e | e | e | e | e | e | e | e <;> first | (exfalso; omega) | (subst e; rfl) | (repeat rw [if_neg (by omega)])) (by rw [endM_n (by rw [show nowR (y 0) w = noiseP (y 0) from by simp only [nowR]; rcases (show w = 0 ∨ w = 1 ∨ w = 2 ∨ w = 3 ∨ w = 4 ∨ w = 5 ∨ w = 6 ∨ w = 7 ∨ w = 8 ∨ w = 9 by omega) with e | e | e | e | e | e | e | e | e | e <;> first | (exfalso; omega) | (subst e; rfl)]; first | omega | (unfold allUseP; omega) | (rcases (show w = 2 ∨ w = 3 ∨ w = 4 by omega) with e | e | e <;> subst e <;> first | exact (Int.lt_of_lt_of_le (by decide) v1.1) | exact (Int.lt_of_lt_of_le (by decide) v2.1) | exact (Int.lt_of_lt_of_le (by decide) v3.1)))])
  · skip
    refine jx_tabIn (tgt := 114) (off := 113) E 9 dX6_now_1 c1 (by unfold inR; decide) (by rfl) (by decide) ?_
    refine jx_aload_n E 0 dX6_now_114 rfl ?_
    refine jx_callVi E [] [] (c_X6_allUses l G b y  hvv) mb_X6_allUses mv_X6_allUses wl_X6_83 f_X6 wm_obj dX6_now_115 ?_
    exact jx_iret E hr dX6_now_118 (by simp only [nowR]; rcases (show w = 0 ∨ w = 1 ∨ w = 2 ∨ w = 3 ∨ w = 4 ∨ w = 5 ∨ w = 6 ∨ w = 7 ∨ w = 8 ∨ w = 9 ∨ (w < 0 ∨ 9 < w) by omega) with e | e | e | e | e | e | e | e | e | e | e <;> first | (exfalso; omega) | (subst e; rfl) | (repeat rw [if_neg (by omega)])) (by rw [endM_n (by rw [show nowR (y 0) w = allUseP (y 0) from by simp only [nowR]; rcases (show w = 0 ∨ w = 1 ∨ w = 2 ∨ w = 3 ∨ w = 4 ∨ w = 5 ∨ w = 6 ∨ w = 7 ∨ w = 8 ∨ w = 9 by omega) with e | e | e | e | e | e | e | e | e | e <;> first | (exfalso; omega) | (subst e; rfl)]; first | omega | (unfold allUseP; omega) | (rcases (show w = 2 ∨ w = 3 ∨ w = 4 by omega) with e | e | e <;> subst e <;> first | exact (Int.lt_of_lt_of_le (by decide) v1.1) | exact (Int.lt_of_lt_of_le (by decide) v2.1) | exact (Int.lt_of_lt_of_le (by decide) v3.1)))])
  · skip
    refine jx_tabOut (tgt := 119) E dX6_now_1 c1 (by decide) ?_
    refine jx_aload_n E 0 dX6_now_119 rfl ?_
    refine jx_ldc E wc_X6_35 dX6_now_120 ?_
    refine jx_callVi E [vI (-1000000001)] [] (c_X6_finds l G b y (f := (-1000000001)) (by omega)) mb_X6_finds mv_X6_finds wl_X6_37 f_X6 wm_obj dX6_now_122 ?_
    exact jx_iret E hr dX6_now_125 (by simp only [nowR]; rcases (show w = 0 ∨ w = 1 ∨ w = 2 ∨ w = 3 ∨ w = 4 ∨ w = 5 ∨ w = 6 ∨ w = 7 ∨ w = 8 ∨ w = 9 ∨ (w < 0 ∨ 9 < w) by omega) with e | e | e | e | e | e | e | e | e | e | e <;> first | (exfalso; omega) | (subst e; rfl) | (repeat rw [if_neg (by omega)])) (by rw [show nowR (y 0) w = -1000000001 from by simp only [nowR]; repeat rw [if_neg (by omega)]]; rw [endM_f (by decide)])
set_option maxHeartbeats 4000000 in
theorem c_X6_fountain (l : Launch) (G : GT) (b : Nat → Nat) (y : MS) {k : Int} (h1 : VT 99999 (y 0)) (h2 : inR k) : CtI l G yX6_fountain cX6_fountain 2 (some .int) 3 [.ref (b 0), vI k] (wsM G b y) (fountainR (y 0) k) (wsM G b (endM (if vKind k ∧ y 0 4 ≠ 8 then setc y 0 (newP (y 0) k 10 0 20) else y) (fountainR (y 0) k))) := by
  obtain ⟨v0, v1, v2, v3, v4, v5, v6, v7⟩ := id h1
  unfold inR at h2
  refine CtI.of (by decide) (Nat.le_of_ble_eq_true rfl) ?_
  intro p e s m args below meth c A E hr
  refine jx_lv (lv' := [(0, .ref (b 0)), (1, vI k)]) [0, 1] rfl ?_
  refine jx_iload_n E 1 dX6_fountain_0 rfl ?_
  refine jx_i2l E dX6_fountain_1 ?_
  refine jx_iconst E dX6_fountain_2 ?_
  refine jx_iconst E dX6_fountain_3 ?_
  refine jx_callSi E [vL k, vI 0, vI 5] [] (c_X6_in l G (wsM G b y) (v := k) (lo := 0) (hi := 5) (by unfold inL; omega) (by unfold inR; omega) (by unfold inR; omega)) mb_X6_in ms_X6_in wl_X6_41 dX6_fountain_4 ?_
  refine jx_if_ne (tgt := 17) E dX6_fountain_7 (by decide) (fun c1 => ?_) (fun c1 => ?_)
  · skip
    refine jx_aload_n E 0 dX6_fountain_17 rfl ?_
    refine jx_get E f_X6 0 (v := .ref (b 1)) wm_obj (by decide) wf_X6_9 rfl dX6_fountain_18 ?_
    refine jx_iconst E dX6_fountain_21 ?_
    refine jx_iald E (v := (y 0) 4) wm_m (row0_at (by omega) (by omega)) (by omega) (by omega) (by decide) dX6_fountain_22 ?_
    refine jx_bipush E dX6_fountain_23 ?_
    refine jx_icmp_ne (tgt := 37) E dX6_fountain_25 (by decide) (fun c2 => ?_) (fun c2 => ?_)
    · skip
      refine jx_aload_n E 0 dX6_fountain_37 rfl ?_
      refine jx_iload_n E 1 dX6_fountain_38 rfl ?_
      refine jx_bipush E dX6_fountain_39 ?_
      refine jx_bipush E dX6_fountain_41 ?_
      refine jx_iconst E dX6_fountain_43 ?_
      refine jx_callVi E [vI k, vI 10, vI 20, vI 0] [] (c_X6_comesAs l G b y (kd := k) (hg := 10) (lo := 20) (of := 0) (by omega)) mb_X6_comesAs mv_X6_comesAs wl_X6_91 f_X6 wm_obj dX6_fountain_44 ?_
      exact jx_iret E hr dX6_fountain_47 (by simp only [fountainR]; omega) (by rw [show fountainR (y 0) k = y 0 4 from by simp only [fountainR]; omega, if_pos (show vKind k ∧ y 0 4 ≠ 8 by omega), endM_n (by omega)])
    · skip
      refine jx_aload_n E 0 dX6_fountain_28 rfl ?_
      refine jx_ldc E wc_X6_90 dX6_fountain_29 ?_
      refine jx_callVi E [vI (-1000000002)] [] (c_X6_finds l G b y (f := (-1000000002)) (by omega)) mb_X6_finds mv_X6_finds wl_X6_37 f_X6 wm_obj dX6_fountain_31 ?_
      refine jx_goto (tgt := 47) E dX6_fountain_34 (by decide) ?_
      exact jx_iret E hr dX6_fountain_47 (by simp only [fountainR]; omega) (by rw [show fountainR (y 0) k = -1000000002 from by simp only [fountainR]; omega, if_neg (show ¬ (vKind k ∧ y 0 4 ≠ 8) by omega), endM_f (by decide)])
  · skip
    refine jx_aload_n E 0 dX6_fountain_10 rfl ?_
    refine jx_ldc E wc_X6_35 dX6_fountain_11 ?_
    refine jx_callVi E [vI (-1000000001)] [] (c_X6_finds l G b y (f := (-1000000001)) (by omega)) mb_X6_finds mv_X6_finds wl_X6_37 f_X6 wm_obj dX6_fountain_13 ?_
    exact jx_iret E hr dX6_fountain_16 (by simp only [fountainR]; omega) (by rw [show fountainR (y 0) k = -1000000001 from by simp only [fountainR]; omega, if_neg (show ¬ (vKind k ∧ y 0 4 ≠ 8) by omega), endM_f (by decide)])
set_option maxHeartbeats 4000000 in
theorem c_X6_of (l : Launch) (G : GT) (b : Nat → Nat) (y : MS) {f w : Int} (h1 : VT 99999 (y 0)) (h2 : inR f) (h3 : inR w) : CtI l G yX6_of cX6_of 3 (some .int) 4 [.ref (b 0), vI f, vI w] (wsM G b y) (ofR (y 0) f w) (wsM G b (endM y (ofR (y 0) f w))) := by
  obtain ⟨v0, v1, v2, v3, v4, v5, v6, v7⟩ := id h1
  unfold inR at h2 h3
  have hvv : VV (y 0) := VT_up h1 (by omega)
  obtain ⟨hD, hC⟩ := VV_use hvv
  refine CtI.of (by decide) (Nat.le_of_ble_eq_true rfl) ?_
  intro p e s m args below meth c A E hr
  refine jx_lv (lv' := [(0, .ref (b 0)), (1, vI f), (2, vI w)]) [0, 1, 2] rfl ?_
  refine jx_aload_n E 0 dX6_of_0 rfl ?_
  refine jx_iload_n E 1 dX6_of_1 rfl ?_
  refine jx_callVi E [vI f] [] (c_X6_isFountain l G b y (f := f) (by unfold inR; omega) (by omega)) mb_X6_isFountain mv_X6_isFountain wl_X6_95 f_X6 wm_obj dX6_of_2 ?_
  refine jx_if_eq (tgt := 19) E dX6_of_5 (by decide) (fun c1 => ?_) (fun c1 => ?_)
  · skip
    refine jx_aload_n E 0 dX6_of_19 rfl ?_
    refine jx_ldc E wc_X6_35 dX6_of_20 ?_
    refine jx_callVi E [vI (-1000000001)] [] (c_X6_finds l G b y (f := (-1000000001)) (by omega)) mb_X6_finds mv_X6_finds wl_X6_37 f_X6 wm_obj dX6_of_22 ?_
    exact jx_iret E hr dX6_of_25 (by have hV : ¬ (vFou (y 0) f ∧ 0 ≤ w ∧ w ≤ 8) := (by omega); simp only [ofR, if_neg hV]) (by have hV : ¬ (vFou (y 0) f ∧ 0 ≤ w ∧ w ≤ 8) := (by omega); simp only [ofR, if_neg hV]; rw [endM_f (by decide)])
  · skip
    refine jx_iload_n E 2 dX6_of_8 rfl ?_
    refine jx_i2l E dX6_of_9 ?_
    refine jx_iconst E dX6_of_10 ?_
    refine jx_bipush E dX6_of_11 ?_
    refine jx_callSi E [vL w, vI 0, vI 8] [] (c_X6_in l G (wsM G b y) (v := w) (lo := 0) (hi := 8) (by unfold inL; omega) (by unfold inR; omega) (by unfold inR; omega)) mb_X6_in ms_X6_in wl_X6_41 dX6_of_13 ?_
    refine jx_if_ne (tgt := 26) E dX6_of_16 (by decide) (fun c2 => ?_) (fun c2 => ?_)
    · skip
      refine jx_iload_n E 2 dX6_of_26 rfl ?_
      rcases (show w = 5 ∨ w = 6 ∨ w = 7 ∨ w = 8 ∨ (w < 5 ∨ 8 < w) by omega) with c3 | c3 | c3 | c3 | c3
      · skip
        refine jx_tabIn (tgt := 56) (off := 29) E 5 dX6_of_27 c3 (by unfold inR; decide) (by rfl) (by decide) ?_
        refine jx_aload_n E 0 dX6_of_56 rfl ?_
        refine jx_iload_n E 1 dX6_of_57 rfl ?_
        refine jx_callVi E [vI f] [] (c_X6_uses l G b y (f := f) (by omega) (by omega) (v7 f (by omega) (by omega)) hD hC) mb_X6_uses mv_X6_uses wl_X6_74 f_X6 wm_obj dX6_of_58 ?_
        exact jx_iret E hr dX6_of_61 (by have hV : vFou (y 0) f ∧ 0 ≤ w ∧ w ≤ 8 := (by omega); simp only [ofR, if_pos hV]; omega) (by have hV : vFou (y 0) f ∧ 0 ≤ w ∧ w ≤ 8 := (by omega); have q := of_in h1 hV; rw [endM_n q])
      · skip
        refine jx_tabIn (tgt := 62) (off := 35) E 6 dX6_of_27 c3 (by unfold inR; decide) (by rfl) (by decide) ?_
        refine jx_aload_n E 0 dX6_of_62 rfl ?_
        refine jx_iload_n E 1 dX6_of_63 rfl ?_
        refine jx_callVi E [vI f] [] (c_X6_heard l G b y (f := f) (by omega) (by omega) (v7 f (by omega) (by omega))) mb_X6_heard mv_X6_heard wl_X6_71 f_X6 wm_obj dX6_of_64 ?_
        exact jx_iret E hr dX6_of_67 (by have hV : vFou (y 0) f ∧ 0 ≤ w ∧ w ≤ 8 := (by omega); simp only [ofR, if_pos hV]; omega) (by have hV : vFou (y 0) f ∧ 0 ≤ w ∧ w ≤ 8 := (by omega); have q := of_in h1 hV; rw [endM_n q])
      · skip
        refine jx_tabIn (tgt := 68) (off := 41) E 7 dX6_of_27 c3 (by unfold inR; decide) (by rfl) (by decide) ?_
        refine jx_bipush E dX6_of_68 ?_
        refine jx_aload_n E 0 dX6_of_70 rfl ?_
        refine jx_iload_n E 1 dX6_of_71 rfl ?_
        refine jx_callVi E [vI f] [vI 100] (c_X6_gains l G b y (f := f) (by omega) (by omega) (v7 f (by omega) (by omega)) hD hC) mb_X6_gains mv_X6_gains wl_X6_98 f_X6 wm_obj dX6_of_72 ?_
        refine jx_iadd E dX6_of_75 ?_
        exact jx_iret E hr dX6_of_76 (by have hV : vFou (y 0) f ∧ 0 ≤ w ∧ w ≤ 8 := (by omega); simp only [ofR, if_pos hV]; omega) (by have hV : vFou (y 0) f ∧ 0 ≤ w ∧ w ≤ 8 := (by omega); have q := of_in h1 hV; rw [endM_n q])
      · skip
        refine jx_tabIn (tgt := 77) (off := 50) E 8 dX6_of_27 c3 (by unfold inR; decide) (by rfl) (by decide) ?_
        refine jx_sipush E dX6_of_77 ?_
        refine jx_aload_n E 0 dX6_of_80 rfl ?_
        refine jx_iload_n E 1 dX6_of_81 rfl ?_
        refine jx_callVi E [vI f] [vI 1000] (c_X6_givesWay l G b y (f := f) (by omega) (by omega) (v7 f (by omega) (by omega))) mb_X6_givesWay mv_X6_givesWay wl_X6_65 f_X6 wm_obj dX6_of_82 ?_
        refine jx_iadd E dX6_of_85 ?_
        exact jx_iret E hr dX6_of_86 (by have hV : vFou (y 0) f ∧ 0 ≤ w ∧ w ≤ 8 := (by omega); simp only [ofR, if_pos hV]; omega) (by have hV : vFou (y 0) f ∧ 0 ≤ w ∧ w ≤ 8 := (by omega); have q := of_in h1 hV; rw [endM_n q])
      · skip
        refine jx_tabOut (tgt := 87) E dX6_of_27 c3 (by decide) ?_
        refine jx_aload_n E 0 dX6_of_87 rfl ?_
        refine jx_iload_n E 1 dX6_of_88 rfl ?_
        refine jx_iload_n E 2 dX6_of_89 rfl ?_
        refine jx_callVi E [vI f, vI w] [] (c_X6_it l G b y (f := f) (what := w) (by omega) (by omega) (by omega) (by omega)) mb_X6_it mv_X6_it wl_X6_49 f_X6 wm_obj dX6_of_90 ?_
        exact jx_iret E hr dX6_of_93 (by have hV : vFou (y 0) f ∧ 0 ≤ w ∧ w ≤ 8 := (by omega); simp only [ofR, if_pos hV]; omega) (by have hV : vFou (y 0) f ∧ 0 ≤ w ∧ w ≤ 8 := (by omega); have q := of_in h1 hV; rw [endM_n q])
    · skip
      refine jx_aload_n E 0 dX6_of_19 rfl ?_
      refine jx_ldc E wc_X6_35 dX6_of_20 ?_
      refine jx_callVi E [vI (-1000000001)] [] (c_X6_finds l G b y (f := (-1000000001)) (by omega)) mb_X6_finds mv_X6_finds wl_X6_37 f_X6 wm_obj dX6_of_22 ?_
      exact jx_iret E hr dX6_of_25 (by have hV : ¬ (vFou (y 0) f ∧ 0 ≤ w ∧ w ≤ 8) := (by omega); simp only [ofR, if_neg hV]) (by have hV : ¬ (vFou (y 0) f ∧ 0 ≤ w ∧ w ≤ 8) := (by omega); simp only [ofR, if_neg hV]; rw [endM_f (by decide)])
set_option maxHeartbeats 4000000 in
theorem c_X6_set (l : Launch) (G : GT) (b : Nat → Nat) (y : MS) {f w v : Int} (h1 : VT 99999 (y 0)) (h2 : inR f) (h3 : inR w) (h4 : inR v) : CtI l G yX6_set cX6_set 5 (some .int) 3 [.ref (b 0), vI f, vI w, vI v] (wsM G b y) (setR (y 0) f w v) (wsM G b (endM (if vSet (y 0) f w v then setc y 0 (updI (y 0) (21 + 5 * f + w) v) else y) (setR (y 0) f w v))) := by
  obtain ⟨v0, v1, v2, v3, v4, v5, v6, v7⟩ := id h1
  unfold inR at h2 h3 h4
  have hb : vFou (y 0) f → 1 ≤ w ∧ w ≤ 4 → 0 ≤ y 0 (21 + 5 * f + w) := fun q r => by obtain ⟨a1, a2, a3, a4, a5⟩ := v7 f q.1 q.2; rcases (show w = 1 ∨ w = 2 ∨ w = 3 ∨ w = 4 by omega) with e | e | e | e <;> subst e <;> omega
  refine CtI.of (by decide) (Nat.le_of_ble_eq_true rfl) ?_
  intro p e s m args below meth c A E hr
  refine jx_lv (lv' := [(0, .ref (b 0)), (1, vI f), (2, vI w), (3, vI v)]) [0, 1, 2, 3] rfl ?_
  have JN47 : ∀ (u : Int), ((u = 1 ∧ vSet (y 0) f w v) ∨ (u = 0 ∧ ¬ vSet (y 0) f w v)) → JX p l e (rmL 3) s m args below meth c 5 G A 0 0 (QI below args s G A (setR (y 0) f w v) (wsM G b (endM (if vSet (y 0) f w v then setc y 0 (updI (y 0) (21 + 5 * f + w) v) else y) (setR (y 0) f w v)))) (wsM G b y) 47 [(4, vI u), (0, .ref (b 0)), (1, vI f), (2, vI w), (3, vI v)] [] := by
    intro u hu
    refine jx_iload E 0 dX6_set_47 rfl ?_
    refine jx_if_eq (tgt := 68) E dX6_set_49 (by decide) (fun c1 => ?_) (fun c1 => ?_)
    · skip
      refine jx_aload_n E 1 dX6_set_68 rfl ?_
      refine jx_ldc E wc_X6_35 dX6_set_69 ?_
      refine jx_callVi E [vI (-1000000001)] [] (c_X6_finds l G b y (f := (-1000000001)) (by omega)) mb_X6_finds mv_X6_finds wl_X6_37 f_X6 wm_obj dX6_set_71 ?_
      exact jx_iret E hr dX6_set_74 (by have hV : ¬ (vSet (y 0) f w v) := (by omega); simp only [setR, if_neg hV]) (by have hV : ¬ (vSet (y 0) f w v) := (by omega); simp only [setR, if_neg hV]; rw [endM_f (by decide)])
    · skip
      refine jx_aload_n E 1 dX6_set_52 rfl ?_
      refine jx_bipush E dX6_set_53 ?_
      refine jx_iconst E dX6_set_55 ?_
      refine jx_iload_n E 2 dX6_set_56 rfl ?_
      refine jx_imul E dX6_set_57 ?_
      refine jx_iadd E dX6_set_58 ?_
      refine jx_iload_n E 3 dX6_set_59 rfl ?_
      refine jx_iadd E dX6_set_60 ?_
      refine jx_iload_n E 4 dX6_set_61 rfl ?_
      refine jx_callVi E [vI ((21 + (5 * f)) + w), vI v] [] (c_X6_becomes l G b y (q := (21 + (5 * f)) + w) (v := v) (by omega) (by omega)) mb_X6_becomes mv_X6_becomes wl_X6_68 f_X6 wm_obj dX6_set_62 ?_
      refine jx_goto (tgt := 74) E dX6_set_65 (by decide) ?_
      exact jx_iret E hr dX6_set_74 (by have hV : vSet (y 0) f w v := (by omega); simp only [setR, if_pos hV]) (by have hV : vSet (y 0) f w v := (by omega); simp only [setR, if_pos hV]; rw [endM_n (by omega)])
  refine jx_aload_n E 0 dX6_set_0 rfl ?_
  refine jx_iload_n E 1 dX6_set_1 rfl ?_
  refine jx_callVi E [vI f] [] (c_X6_isFountain l G b y (f := f) (by unfold inR; omega) (by omega)) mb_X6_isFountain mv_X6_isFountain wl_X6_95 f_X6 wm_obj dX6_set_2 ?_
  refine jx_if_eq (tgt := 44) E dX6_set_5 (by decide) (fun c2 => ?_) (fun c2 => ?_)
  · skip
    refine jx_iconst E dX6_set_44 ?_
    refine jx_istore E dX6_set_45 (by decide) [(4, vI 0), (0, .ref (b 0)), (1, vI f), (2, vI w), (3, vI v)] rfl ?_
    exact JN47 _ (by omega)
  · skip
    refine jx_iload_n E 2 dX6_set_8 rfl ?_
    refine jx_i2l E dX6_set_9 ?_
    refine jx_iconst E dX6_set_10 ?_
    refine jx_iconst E dX6_set_11 ?_
    refine jx_callSi E [vL w, vI 1, vI 4] [] (c_X6_in l G (wsM G b y) (v := w) (lo := 1) (hi := 4) (by unfold inL; omega) (by unfold inR; omega) (by unfold inR; omega)) mb_X6_in ms_X6_in wl_X6_41 dX6_set_12 ?_
    refine jx_if_eq (tgt := 44) E dX6_set_15 (by decide) (fun c3 => ?_) (fun c3 => ?_)
    · skip
      refine jx_iconst E dX6_set_44 ?_
      refine jx_istore E dX6_set_45 (by decide) [(4, vI 0), (0, .ref (b 0)), (1, vI f), (2, vI w), (3, vI v)] rfl ?_
      exact JN47 _ (by omega)
    · skip
      have JN30 : ∀ (u : Int), (u = if w = 1 then 1 else 0) → JX p l e (rmL 3) s m args below meth c 5 G A 0 0 (QI below args s G A (setR (y 0) f w v) (wsM G b (endM (if vSet (y 0) f w v then setc y 0 (updI (y 0) (21 + 5 * f + w) v) else y) (setR (y 0) f w v)))) (wsM G b y) 30 [(0, .ref (b 0)), (1, vI f), (2, vI w), (3, vI v)] [vI u, vL v] := by
        intro u hu
        refine jx_iload_n E 2 dX6_set_30 rfl ?_
        refine jx_callSi E [vI w] [vI u, vL v] (c_X6_mostOf l G (wsM G b y) (w := w) (by unfold inR; omega)) mb_X6_mostOf ms_X6_mostOf wl_X6_101 dX6_set_31 ?_
        refine jx_callSi E [vL v, vI u, vI (if w = 1 then 40 else if w = 2 then 1 else if w = 3 then 99 else 9999)] [] (c_X6_in l G (wsM G b y) (v := v) (lo := u) (hi := (if w = 1 then 40 else if w = 2 then 1 else if w = 3 then 99 else 9999)) (by unfold inL; omega) (by unfold inR; omega) (by unfold inR; omega)) mb_X6_in ms_X6_in wl_X6_41 dX6_set_34 ?_
        refine jx_if_eq (tgt := 44) E dX6_set_37 (by decide) (fun c4 => ?_) (fun c4 => ?_)
        · skip
          refine jx_iconst E dX6_set_44 ?_
          refine jx_istore E dX6_set_45 (by decide) [(4, vI 0), (0, .ref (b 0)), (1, vI f), (2, vI w), (3, vI v)] rfl ?_
          exact JN47 _ (by omega)
        · skip
          refine jx_iconst E dX6_set_40 ?_
          refine jx_goto (tgt := 45) E dX6_set_41 (by decide) ?_
          refine jx_istore E dX6_set_45 (by decide) [(4, vI 1), (0, .ref (b 0)), (1, vI f), (2, vI w), (3, vI v)] rfl ?_
          exact JN47 _ (by omega)
      refine jx_iload_n E 3 dX6_set_18 rfl ?_
      refine jx_i2l E dX6_set_19 ?_
      refine jx_iload_n E 2 dX6_set_20 rfl ?_
      refine jx_iconst E dX6_set_21 ?_
      refine jx_icmp_ne (tgt := 29) E dX6_set_22 (by decide) (fun c5 => ?_) (fun c5 => ?_)
      · skip
        refine jx_iconst E dX6_set_29 ?_
        exact JN30 _ (by omega)
      · skip
        refine jx_iconst E dX6_set_25 ?_
        refine jx_goto (tgt := 30) E dX6_set_26 (by decide) ?_
        exact JN30 _ (by omega)
set_option maxHeartbeats 4000000 in
theorem c_X6_turn (l : Launch) (G : GT) (b : Nat → Nat) (y : MS) {f k : Int} (h1 : VT 99999 (y 0)) (h2 : inR f) (h3 : inR k) : CtI l G yX6_turn cX6_turn 3 (some .int) 3 [.ref (b 0), vI f, vI k] (wsM G b y) (turnR (y 0) f k) (wsM G b (endM (if vFou (y 0) f ∧ vKind k then setc y 0 (updI (y 0) (21 + 5 * f) k) else y) (turnR (y 0) f k))) := by
  obtain ⟨v0, v1, v2, v3, v4, v5, v6, v7⟩ := id h1
  unfold inR at h2 h3
  have hb : vFou (y 0) f → 0 ≤ y 0 (21 + 5 * f) := fun q => (v7 f q.1 q.2).1.1
  refine CtI.of (by decide) (Nat.le_of_ble_eq_true rfl) ?_
  intro p e s m args below meth c A E hr
  refine jx_lv (lv' := [(0, .ref (b 0)), (1, vI f), (2, vI k)]) [0, 1, 2] rfl ?_
  refine jx_aload_n E 0 dX6_turn_0 rfl ?_
  refine jx_iload_n E 1 dX6_turn_1 rfl ?_
  refine jx_callVi E [vI f] [] (c_X6_isFountain l G b y (f := f) (by unfold inR; omega) (by omega)) mb_X6_isFountain mv_X6_isFountain wl_X6_95 f_X6 wm_obj dX6_turn_2 ?_
  refine jx_if_eq (tgt := 32) E dX6_turn_5 (by decide) (fun c1 => ?_) (fun c1 => ?_)
  · skip
    refine jx_aload_n E 0 dX6_turn_32 rfl ?_
    refine jx_ldc E wc_X6_35 dX6_turn_33 ?_
    refine jx_callVi E [vI (-1000000001)] [] (c_X6_finds l G b y (f := (-1000000001)) (by omega)) mb_X6_finds mv_X6_finds wl_X6_37 f_X6 wm_obj dX6_turn_35 ?_
    exact jx_iret E hr dX6_turn_38 (by have hV : ¬ (vFou (y 0) f ∧ vKind k) := (by omega); simp only [turnR, if_neg hV]) (by have hV : ¬ (vFou (y 0) f ∧ vKind k) := (by omega); simp only [turnR, if_neg hV]; rw [endM_f (by decide)])
  · skip
    refine jx_iload_n E 2 dX6_turn_8 rfl ?_
    refine jx_i2l E dX6_turn_9 ?_
    refine jx_iconst E dX6_turn_10 ?_
    refine jx_iconst E dX6_turn_11 ?_
    refine jx_callSi E [vL k, vI 0, vI 5] [] (c_X6_in l G (wsM G b y) (v := k) (lo := 0) (hi := 5) (by unfold inL; omega) (by unfold inR; omega) (by unfold inR; omega)) mb_X6_in ms_X6_in wl_X6_41 dX6_turn_12 ?_
    refine jx_if_eq (tgt := 32) E dX6_turn_15 (by decide) (fun c2 => ?_) (fun c2 => ?_)
    · skip
      refine jx_aload_n E 0 dX6_turn_32 rfl ?_
      refine jx_ldc E wc_X6_35 dX6_turn_33 ?_
      refine jx_callVi E [vI (-1000000001)] [] (c_X6_finds l G b y (f := (-1000000001)) (by omega)) mb_X6_finds mv_X6_finds wl_X6_37 f_X6 wm_obj dX6_turn_35 ?_
      exact jx_iret E hr dX6_turn_38 (by have hV : ¬ (vFou (y 0) f ∧ vKind k) := (by omega); simp only [turnR, if_neg hV]) (by have hV : ¬ (vFou (y 0) f ∧ vKind k) := (by omega); simp only [turnR, if_neg hV]; rw [endM_f (by decide)])
    · skip
      refine jx_aload_n E 0 dX6_turn_18 rfl ?_
      refine jx_bipush E dX6_turn_19 ?_
      refine jx_iconst E dX6_turn_21 ?_
      refine jx_iload_n E 1 dX6_turn_22 rfl ?_
      refine jx_imul E dX6_turn_23 ?_
      refine jx_iadd E dX6_turn_24 ?_
      refine jx_iload_n E 2 dX6_turn_25 rfl ?_
      refine jx_callVi E [vI (21 + (5 * f)), vI k] [] (c_X6_becomes l G b y (q := 21 + (5 * f)) (v := k) (by omega) (by omega)) mb_X6_becomes mv_X6_becomes wl_X6_68 f_X6 wm_obj dX6_turn_26 ?_
      refine jx_goto (tgt := 38) E dX6_turn_29 (by decide) ?_
      exact jx_iret E hr dX6_turn_38 (by have hV : vFou (y 0) f ∧ vKind k := (by omega); simp only [turnR, if_pos hV]) (by have hV : vFou (y 0) f ∧ vKind k := (by omega); simp only [turnR, if_pos hV]; rw [endM_n (by omega)])
set_option maxHeartbeats 4000000 in
theorem c_X6_as (l : Launch) (G : GT) (b : Nat → Nat) (y : MS) {f k : Int} (h1 : VT 99999 (y 0)) (h2 : inR f) (h3 : inR k) : CtI l G yX6_as cX6_as 5 (some .int) 3 [.ref (b 0), vI f, vI k] (wsM G b y) (asR (y 0) f k) (wsM G b (endM y (asR (y 0) f k))) := by
  obtain ⟨v0, v1, v2, v3, v4, v5, v6, v7⟩ := id h1
  unfold inR at h2 h3
  have hb : vFou (y 0) f → (0 ≤ y 0 (21 + 5 * f) ∧ y 0 (21 + 5 * f) ≤ 5) ∧ 0 ≤ y 0 (21 + 5 * f + 3) := fun q => ⟨(v7 f q.1 q.2).1, (v7 f q.1 q.2).2.2.2.1.1⟩
  refine CtI.of (by decide) (Nat.le_of_ble_eq_true rfl) ?_
  intro p e s m args below meth c A E hr
  refine jx_lv (lv' := [(0, .ref (b 0)), (1, vI f), (2, vI k)]) [0, 1, 2] rfl ?_
  refine jx_aload_n E 0 dX6_as_0 rfl ?_
  refine jx_iload_n E 1 dX6_as_1 rfl ?_
  refine jx_callVi E [vI f] [] (c_X6_isFountain l G b y (f := f) (by unfold inR; omega) (by omega)) mb_X6_isFountain mv_X6_isFountain wl_X6_95 f_X6 wm_obj dX6_as_2 ?_
  refine jx_if_eq (tgt := 18) E dX6_as_5 (by decide) (fun c1 => ?_) (fun c1 => ?_)
  · skip
    refine jx_aload_n E 0 dX6_as_18 rfl ?_
    refine jx_ldc E wc_X6_35 dX6_as_19 ?_
    refine jx_callVi E [vI (-1000000001)] [] (c_X6_finds l G b y (f := (-1000000001)) (by omega)) mb_X6_finds mv_X6_finds wl_X6_37 f_X6 wm_obj dX6_as_21 ?_
    exact jx_iret E hr dX6_as_24 (by simp only [asR]; omega) (by rw [show asR (y 0) f k = (-1000000001) from by simp only [asR]; omega, endM_f (by decide)])
  · skip
    refine jx_iload_n E 2 dX6_as_8 rfl ?_
    refine jx_i2l E dX6_as_9 ?_
    refine jx_iconst E dX6_as_10 ?_
    refine jx_iconst E dX6_as_11 ?_
    refine jx_callSi E [vL k, vI 0, vI 5] [] (c_X6_in l G (wsM G b y) (v := k) (lo := 0) (hi := 5) (by unfold inL; omega) (by unfold inR; omega) (by unfold inR; omega)) mb_X6_in ms_X6_in wl_X6_41 dX6_as_12 ?_
    refine jx_if_ne (tgt := 25) E dX6_as_15 (by decide) (fun c2 => ?_) (fun c2 => ?_)
    · skip
      refine jx_aload_n E 0 dX6_as_25 rfl ?_
      refine jx_iload_n E 1 dX6_as_26 rfl ?_
      refine jx_iconst E dX6_as_27 ?_
      refine jx_callVi E [vI f, vI 0] [] (c_X6_it l G b y (f := f) (what := 0) (by omega) (by omega) (by omega) (by omega)) mb_X6_it mv_X6_it wl_X6_49 f_X6 wm_obj dX6_as_28 ?_
      refine jx_st (st' := [vI ((y 0) (21 + 5 * f))]) (by simp only [Int.add_zero]; first | done | rfl) ?_
      refine jx_istore_n E dX6_as_31 (by decide) [(3, vI ((y 0) (21 + 5 * f))), (0, .ref (b 0)), (1, vI f), (2, vI k)] rfl ?_
      have JN68 : ∀ (u : Int), (u = if k = 0 ∨ k = y 0 (21 + 5 * f) ∨ (k = 1 ∧ y 0 (21 + 5 * f) = 4) ∨ (k = 3 ∧ y 0 (21 + 5 * f) = 5) then 1 else 0) → JX p l e (rmL 3) s m args below meth c 5 G A 0 0 (QI below args s G A (asR (y 0) f k) (wsM G b (endM y (asR (y 0) f k)))) (wsM G b y) 68 [(4, vI u), (3, vI ((y 0) (21 + 5 * f))), (0, .ref (b 0)), (1, vI f), (2, vI k)] [] := by
        intro u hu
        refine jx_iload E 0 dX6_as_68 rfl ?_
        refine jx_if_eq (tgt := 82) E dX6_as_70 (by decide) (fun c3 => ?_) (fun c3 => ?_)
        · skip
          refine jx_aload_n E 2 dX6_as_82 rfl ?_
          refine jx_ldc E wc_X6_104 dX6_as_83 ?_
          refine jx_callVi E [vI (-1000000003)] [] (c_X6_finds l G b y (f := (-1000000003)) (by omega)) mb_X6_finds mv_X6_finds wl_X6_37 f_X6 wm_obj dX6_as_85 ?_
          exact jx_iret E hr dX6_as_88 (by simp only [asR]; omega) (by rw [show asR (y 0) f k = (-1000000003) from by simp only [asR]; omega, endM_f (by decide)])
        · skip
          refine jx_aload_n E 2 dX6_as_73 rfl ?_
          refine jx_iload_n E 3 dX6_as_74 rfl ?_
          refine jx_iconst E dX6_as_75 ?_
          refine jx_callVi E [vI f, vI 3] [] (c_X6_it l G b y (f := f) (what := 3) (by omega) (by omega) (by omega) (by omega)) mb_X6_it mv_X6_it wl_X6_49 f_X6 wm_obj dX6_as_76 ?_
          refine jx_goto (tgt := 88) E dX6_as_79 (by decide) ?_
          exact jx_iret E hr dX6_as_88 (by simp only [asR]; omega) (by rw [show asR (y 0) f k = (y 0) (21 + 5 * f + 3) from by simp only [asR]; omega, endM_n (by omega)])
      refine jx_iload_n E 3 dX6_as_32 rfl ?_
      refine jx_if_eq (tgt := 61) E dX6_as_33 (by decide) (fun c4 => ?_) (fun c4 => ?_)
      · skip
        refine jx_iconst E dX6_as_61 ?_
        refine jx_goto (tgt := 66) E dX6_as_62 (by decide) ?_
        refine jx_istore E dX6_as_66 (by decide) [(4, vI 1), (3, vI ((y 0) (21 + 5 * f))), (0, .ref (b 0)), (1, vI f), (2, vI k)] rfl ?_
        exact JN68 _ (by omega)
      · skip
        refine jx_iload_n E 3 dX6_as_36 rfl ?_
        refine jx_iload_n E 0 dX6_as_37 rfl ?_
        refine jx_icmp_eq (tgt := 61) E dX6_as_38 (by decide) (fun c5 => ?_) (fun c5 => ?_)
        · skip
          refine jx_iconst E dX6_as_61 ?_
          refine jx_goto (tgt := 66) E dX6_as_62 (by decide) ?_
          refine jx_istore E dX6_as_66 (by decide) [(4, vI 1), (3, vI ((y 0) (21 + 5 * f))), (0, .ref (b 0)), (1, vI f), (2, vI k)] rfl ?_
          exact JN68 _ (by omega)
        · skip
          refine jx_iload_n E 3 dX6_as_41 rfl ?_
          refine jx_iconst E dX6_as_42 ?_
          refine jx_icmp_ne (tgt := 51) E dX6_as_43 (by decide) (fun c6 => ?_) (fun c6 => ?_)
          · skip
            refine jx_iload_n E 3 dX6_as_51 rfl ?_
            refine jx_iconst E dX6_as_52 ?_
            refine jx_icmp_ne (tgt := 65) E dX6_as_53 (by decide) (fun c7 => ?_) (fun c7 => ?_)
            · skip
              refine jx_iconst E dX6_as_65 ?_
              refine jx_istore E dX6_as_66 (by decide) [(4, vI 0), (3, vI ((y 0) (21 + 5 * f))), (0, .ref (b 0)), (1, vI f), (2, vI k)] rfl ?_
              exact JN68 _ (by omega)
            · skip
              refine jx_iload_n E 0 dX6_as_56 rfl ?_
              refine jx_iconst E dX6_as_57 ?_
              refine jx_icmp_ne (tgt := 65) E dX6_as_58 (by decide) (fun c8 => ?_) (fun c8 => ?_)
              · skip
                refine jx_iconst E dX6_as_65 ?_
                refine jx_istore E dX6_as_66 (by decide) [(4, vI 0), (3, vI ((y 0) (21 + 5 * f))), (0, .ref (b 0)), (1, vI f), (2, vI k)] rfl ?_
                exact JN68 _ (by omega)
              · skip
                refine jx_iconst E dX6_as_61 ?_
                refine jx_goto (tgt := 66) E dX6_as_62 (by decide) ?_
                refine jx_istore E dX6_as_66 (by decide) [(4, vI 1), (3, vI ((y 0) (21 + 5 * f))), (0, .ref (b 0)), (1, vI f), (2, vI k)] rfl ?_
                exact JN68 _ (by omega)
          · skip
            refine jx_iload_n E 0 dX6_as_46 rfl ?_
            refine jx_iconst E dX6_as_47 ?_
            refine jx_icmp_eq (tgt := 61) E dX6_as_48 (by decide) (fun c9 => ?_) (fun c9 => ?_)
            · skip
              refine jx_iconst E dX6_as_61 ?_
              refine jx_goto (tgt := 66) E dX6_as_62 (by decide) ?_
              refine jx_istore E dX6_as_66 (by decide) [(4, vI 1), (3, vI ((y 0) (21 + 5 * f))), (0, .ref (b 0)), (1, vI f), (2, vI k)] rfl ?_
              exact JN68 _ (by omega)
            · skip
              refine jx_iload_n E 3 dX6_as_51 rfl ?_
              refine jx_iconst E dX6_as_52 ?_
              refine jx_icmp_ne (tgt := 65) E dX6_as_53 (by decide) (fun c10 => ?_) (fun c10 => ?_)
              · skip
                refine jx_iconst E dX6_as_65 ?_
                refine jx_istore E dX6_as_66 (by decide) [(4, vI 0), (3, vI ((y 0) (21 + 5 * f))), (0, .ref (b 0)), (1, vI f), (2, vI k)] rfl ?_
                exact JN68 _ (by omega)
              · skip
                refine jx_iload_n E 0 dX6_as_56 rfl ?_
                refine jx_iconst E dX6_as_57 ?_
                refine jx_icmp_ne (tgt := 65) E dX6_as_58 (by decide) (fun c11 => ?_) (fun c11 => ?_)
                · skip
                  refine jx_iconst E dX6_as_65 ?_
                  refine jx_istore E dX6_as_66 (by decide) [(4, vI 0), (3, vI ((y 0) (21 + 5 * f))), (0, .ref (b 0)), (1, vI f), (2, vI k)] rfl ?_
                  exact JN68 _ (by omega)
                · skip
                  refine jx_iconst E dX6_as_61 ?_
                  refine jx_goto (tgt := 66) E dX6_as_62 (by decide) ?_
                  refine jx_istore E dX6_as_66 (by decide) [(4, vI 1), (3, vI ((y 0) (21 + 5 * f))), (0, .ref (b 0)), (1, vI f), (2, vI k)] rfl ?_
                  exact JN68 _ (by omega)
    · skip
      refine jx_aload_n E 0 dX6_as_18 rfl ?_
      refine jx_ldc E wc_X6_35 dX6_as_19 ?_
      refine jx_callVi E [vI (-1000000001)] [] (c_X6_finds l G b y (f := (-1000000001)) (by omega)) mb_X6_finds mv_X6_finds wl_X6_37 f_X6 wm_obj dX6_as_21 ?_
      exact jx_iret E hr dX6_as_24 (by simp only [asR]; omega) (by rw [show asR (y 0) f k = (-1000000001) from by simp only [asR]; omega, endM_f (by decide)])
set_option maxHeartbeats 4000000 in
theorem c_X6_next (l : Launch) (G : GT) (b : Nat → Nat) (y : MS) (h1 : VT 99999 (y 0)) : CtI l G yX6_next cX6_next 1 (some .int) 4 [.ref (b 0)] (wsM G b y) (nextR (y 0)) (wsM G b (endM y (nextR (y 0)))) := by
  obtain ⟨v0, v1, v2, v3, v4, v5, v6, v7⟩ := id h1
  have hvv : VV (y 0) := VT_up h1 (by omega)
  have hb := best_in (y 0) 0 1 (y 0 4).toNat
  refine CtI.of (by decide) (Nat.le_of_ble_eq_true rfl) ?_
  intro p e s m args below meth c A E hr
  refine jx_lv (lv' := [(0, .ref (b 0))]) [0] rfl ?_
  refine jx_aload_n E 0 dX6_next_0 rfl ?_
  refine jx_aload_n E 0 dX6_next_1 rfl ?_
  refine jx_iconst E dX6_next_2 ?_
  refine jx_iconst E dX6_next_3 ?_
  refine jx_callVi E [vI 0, vI 1] [.ref (b 0)] (c_X6_first l G b y (off := 0) (most := 1) hvv (by omega)) mb_X6_first mv_X6_first wl_X6_105 f_X6 wm_obj dX6_next_4 ?_
  refine jx_callVi E [vI (bestP (y 0) 0 1 ((y 0) 4).toNat)] [] (c_X6_orNone l G b y (v := bestP (y 0) 0 1 ((y 0) 4).toNat) (by unfold inR; omega)) mb_X6_orNone mv_X6_orNone wl_X6_109 f_X6 wm_obj dX6_next_7 ?_
  exact jx_iret E hr dX6_next_10 rfl rfl
set_option maxHeartbeats 4000000 in
theorem c_X6_days (l : Launch) (G : GT) (b : Nat → Nat) (y : MS) {n : Int} (h1 : VT 99999 (y 0)) (h2 : inR n) : CtI l G yX6_days cX6_days 2 (some .int) 7 [.ref (b 0), vI n] (wsM G b y) (daysR (y 0) n) (wsM G b (endM (if v100 n ∧ y 0 0 + n ≤ 99999 then setc y 0 (daysP n.toNat (y 0)) else y) (daysR (y 0) n))) := by
  obtain ⟨v0, v1, v2, v3, v4, v5, v6, v7⟩ := id h1
  unfold inR at h2
  have hd := VT_days h1 n.toNat
  have hd1 := hd.2.1
  refine CtI.of (by decide) (Nat.le_of_ble_eq_true rfl) ?_
  intro p e s m args below meth c A E hr
  refine jx_lv (lv' := [(0, .ref (b 0)), (1, vI n)]) [0, 1] rfl ?_
  refine jx_iload_n E 1 dX6_days_0 rfl ?_
  refine jx_i2l E dX6_days_1 ?_
  refine jx_iconst E dX6_days_2 ?_
  refine jx_bipush E dX6_days_3 ?_
  refine jx_callSi E [vL n, vI 1, vI 100] [] (c_X6_in l G (wsM G b y) (v := n) (lo := 1) (hi := 100) (by unfold inL; omega) (by unfold inR; omega) (by unfold inR; omega)) mb_X6_in ms_X6_in wl_X6_41 dX6_days_5 ?_
  refine jx_if_ne (tgt := 18) E dX6_days_8 (by decide) (fun c1 => ?_) (fun c1 => ?_)
  · skip
    refine jx_aload_n E 0 dX6_days_18 rfl ?_
    refine jx_get E f_X6 0 (v := .ref (b 1)) wm_obj (by decide) wf_X6_9 rfl dX6_days_19 ?_
    refine jx_iconst E dX6_days_22 ?_
    refine jx_iald E (v := (y 0) 0) wm_m (row0_at (by omega) (by omega)) (by omega) (by omega) (by decide) dX6_days_23 ?_
    refine jx_iload_n E 1 dX6_days_24 rfl ?_
    refine jx_iadd E dX6_days_25 ?_
    refine jx_ldc E wc_X6_125 dX6_days_26 ?_
    refine jx_icmp_le (tgt := 38) E dX6_days_28 (by decide) (fun c2 => ?_) (fun c2 => ?_)
    · skip
      refine jx_aload_n E 0 dX6_days_38 rfl ?_
      refine jx_iload_n E 1 dX6_days_39 rfl ?_
      refine jx_callVv E [vI n] [] (c_X6_goesFor l G b y (n := n) (VT_up h1 (by omega)) (by omega)) mb_X6_goesFor mv_X6_goesFor wl_X6_127 f_X6 wm_obj dX6_days_40 ?_
      refine jx_aload_n E 0 dX6_days_43 rfl ?_
      refine jx_get E f_X6 0 (v := .ref (b 1)) wm_obj (by decide) wf_X6_9 rfl dX6_days_44 ?_
      refine jx_iconst E dX6_days_47 ?_
      refine jx_iald E (v := (daysP n.toNat (y 0)) 1) wm_m (row0_at (by omega) (by omega)) (by omega) (by omega) (by decide) dX6_days_48 ?_
      exact jx_iret E hr dX6_days_49 (by simp only [daysR]; omega) (by rw [show daysR (y 0) n = (daysP n.toNat (y 0)) 1 from by simp only [daysR]; omega, if_pos (show v100 n ∧ y 0 0 + n ≤ 99999 by omega), endM_n (by omega)])
    · skip
      refine jx_aload_n E 0 dX6_days_31 rfl ?_
      refine jx_ldc E wc_X6_126 dX6_days_32 ?_
      refine jx_callVi E [vI (-1000000005)] [] (c_X6_finds l G b y (f := (-1000000005)) (by omega)) mb_X6_finds mv_X6_finds wl_X6_37 f_X6 wm_obj dX6_days_34 ?_
      exact jx_iret E hr dX6_days_37 (by simp only [daysR]; omega) (by rw [show daysR (y 0) n = (-1000000005) from by simp only [daysR]; omega, if_neg (show ¬ (v100 n ∧ y 0 0 + n ≤ 99999) by omega), endM_f (by decide)])
  · skip
    refine jx_aload_n E 0 dX6_days_11 rfl ?_
    refine jx_ldc E wc_X6_35 dX6_days_12 ?_
    refine jx_callVi E [vI (-1000000001)] [] (c_X6_finds l G b y (f := (-1000000001)) (by omega)) mb_X6_finds mv_X6_finds wl_X6_37 f_X6 wm_obj dX6_days_14 ?_
    exact jx_iret E hr dX6_days_17 (by simp only [daysR]; omega) (by rw [show daysR (y 0) n = (-1000000001) from by simp only [daysR]; omega, if_neg (show ¬ (v100 n ∧ y 0 0 + n ≤ 99999) by omega), endM_f (by decide)])
set_option maxHeartbeats 4000000 in
theorem c_X6_on (l : Launch) (G : GT) (b : Nat → Nat) (y : MS) {n w : Int} (h1 : VT 99999 (y 0)) (h2 : inR n) (h3 : inR w) : CtI l G yX6_on cX6_on 4 (some .int) 7 [.ref (b 0), vI n, vI w] (wsM G b y) (onR (y 0) n w) (wsM G b (endM (if v400 n ∧ 0 ≤ w ∧ w ≤ 2 then thinkM y else y) (onR (y 0) n w))) := by
  obtain ⟨v0, v1, v2, v3, v4, v5, v6, v7⟩ := id h1
  unfold inR at h2 h3
  have hd := VT_days h1 n.toNat
  have hd1 := hd.2.1
  have hd4 := days_4 h1 n.toNat
  have hnn : v400 n → 0 ≤ noiseP (daysP n.toNat (y 0)) ∧ noiseP (daysP n.toNat (y 0)) ≤ 400 := fun q => noise_in hd
  have hoo := offsN_in (t := daysP n.toNat (y 0)) (daysP n.toNat (y 0) 4).toNat (fun i a b => (hd.2.2.2.2.2.2.2 i a (by omega)).2.2.1)
  refine CtI.of (by decide) (Nat.le_of_ble_eq_true rfl) ?_
  intro p e s m args below meth c A E hr
  refine jx_lv (lv' := [(0, .ref (b 0)), (1, vI n), (2, vI w)]) [0, 1, 2] rfl ?_
  refine jx_iload_n E 1 dX6_on_0 rfl ?_
  refine jx_i2l E dX6_on_1 ?_
  refine jx_iconst E dX6_on_2 ?_
  refine jx_sipush E dX6_on_3 ?_
  refine jx_callSi E [vL n, vI 0, vI 400] [] (c_X6_in l G (wsM G b y) (v := n) (lo := 0) (hi := 400) (by unfold inL; omega) (by unfold inR; omega) (by unfold inR; omega)) mb_X6_in ms_X6_in wl_X6_41 dX6_on_6 ?_
  refine jx_if_eq (tgt := 22) E dX6_on_9 (by decide) (fun c1 => ?_) (fun c1 => ?_)
  · skip
    refine jx_aload_n E 0 dX6_on_22 rfl ?_
    refine jx_ldc E wc_X6_35 dX6_on_23 ?_
    refine jx_callVi E [vI (-1000000001)] [] (c_X6_finds l G b y (f := (-1000000001)) (by omega)) mb_X6_finds mv_X6_finds wl_X6_37 f_X6 wm_obj dX6_on_25 ?_
    exact jx_iret E hr dX6_on_28 (by have hV : ¬ (v400 n ∧ 0 ≤ w ∧ w ≤ 2) := (by omega); simp only [onR, if_neg hV]) (by have hV : ¬ (v400 n ∧ 0 ≤ w ∧ w ≤ 2) := (by omega); simp only [onR, if_neg hV]; rw [endM_f (by decide)])
  · skip
    refine jx_iload_n E 2 dX6_on_12 rfl ?_
    refine jx_i2l E dX6_on_13 ?_
    refine jx_iconst E dX6_on_14 ?_
    refine jx_iconst E dX6_on_15 ?_
    refine jx_callSi E [vL w, vI 0, vI 2] [] (c_X6_in l G (wsM G b y) (v := w) (lo := 0) (hi := 2) (by unfold inL; omega) (by unfold inR; omega) (by unfold inR; omega)) mb_X6_in ms_X6_in wl_X6_41 dX6_on_16 ?_
    refine jx_if_ne (tgt := 29) E dX6_on_19 (by decide) (fun c2 => ?_) (fun c2 => ?_)
    · skip
      refine jx_aload_n E 0 dX6_on_29 rfl ?_
      refine jx_callVv E [] [] (c_X6_thinks l G b y  ) mb_X6_thinks mv_X6_thinks wl_X6_134 f_X6 wm_obj dX6_on_30 ?_
      refine jx_eq (ws' := wsM G b (setc (setc y 2 (y 0)) 0 (y 0))) (congrArg (wsM G b) (by first | rfl | (rw [setc_setc]; rfl) | (simp only [setc_setc, setc_at]; done) | (simp only [setc_setc, setc_at]; rfl) | (funext d; simp only [setc_app]; (repeat' split) <;> first | rfl | omega | simp_all))) ?_
      refine jx_aload_n E 0 dX6_on_33 rfl ?_
      refine jx_iload_n E 1 dX6_on_34 rfl ?_
      refine jx_callVv E [vI n] [] (c_X6_goesFor l G b (setc (setc y 2 (y 0)) 0 (y 0)) (n := n) (VT_up h1 (by omega)) (by omega)) mb_X6_goesFor mv_X6_goesFor wl_X6_127 f_X6 wm_obj dX6_on_35 ?_
      refine jx_eq (ws' := wsM G b (setc (setc y 2 (y 0)) 0 (daysP n.toNat (y 0)))) (congrArg (wsM G b) (by first | rfl | (rw [setc_setc]; rfl) | (simp only [setc_setc, setc_at]; done) | (simp only [setc_setc, setc_at]; rfl) | (funext d; simp only [setc_app]; (repeat' split) <;> first | rfl | omega | simp_all))) ?_
      refine jx_iload_n E 2 dX6_on_38 rfl ?_
      refine jx_if_ne (tgt := 51) E dX6_on_39 (by decide) (fun c3 => ?_) (fun c3 => ?_)
      · skip
        refine jx_iload_n E 2 dX6_on_51 rfl ?_
        refine jx_iconst E dX6_on_52 ?_
        refine jx_icmp_ne (tgt := 63) E dX6_on_53 (by decide) (fun c4 => ?_) (fun c4 => ?_)
        · skip
          refine jx_aload_n E 0 dX6_on_63 rfl ?_
          refine jx_callVi E [] [] (c_X6_offOnes l G b (setc (setc y 2 (y 0)) 0 (daysP n.toNat (y 0)))  (VT_up hd (by omega))) mb_X6_offOnes mv_X6_offOnes wl_X6_77 f_X6 wm_obj dX6_on_64 ?_
          refine jx_st (st' := [vI (offsN (daysP n.toNat (y 0)) ((daysP n.toNat (y 0)) 4).toNat)]) (by first | rfl | (simp only [setc_at]; done) | (simp only [setc_at]; rfl)) ?_
          refine jx_istore_n E dX6_on_67 (by decide) [(3, vI (offsN (daysP n.toNat (y 0)) ((daysP n.toNat (y 0)) 4).toNat)), (0, .ref (b 0)), (1, vI n), (2, vI w)] rfl ?_
          refine jx_aload_n E 1 dX6_on_68 rfl ?_
          refine jx_callVv E [] [] (c_X6_putsBack l G b (setc (setc y 2 (y 0)) 0 (daysP n.toNat (y 0)))  ) mb_X6_putsBack mv_X6_putsBack wl_X6_137 f_X6 wm_obj dX6_on_69 ?_
          refine jx_eq (ws' := wsM G b (setc (setc y 2 (y 0)) 0 (y 0))) (congrArg (wsM G b) (by first | rfl | (rw [setc_setc]; rfl) | (simp only [setc_setc, setc_at]; done) | (simp only [setc_setc, setc_at]; rfl) | (funext d; simp only [setc_app]; (repeat' split) <;> first | rfl | omega | simp_all))) ?_
          refine jx_iload_n E 0 dX6_on_72 rfl ?_
          exact jx_iret E hr dX6_on_73 (by have hV : v400 n ∧ 0 ≤ w ∧ w ≤ 2 := (by omega); simp only [onR, if_pos hV]; simp only [onV]; omega) (by have hV : v400 n ∧ 0 ≤ w ∧ w ≤ 2 := (by omega); have e : (onR (y 0) n w) = offsN (daysP n.toNat (y 0)) ((daysP n.toNat (y 0)) 4).toNat := (by simp only [onR, if_pos hV]; simp only [onV]; omega); rw [e, if_pos hV, endM_n (by omega)]; rfl)
        · skip
          refine jx_aload_n E 0 dX6_on_56 rfl ?_
          refine jx_callVi E [] [] (c_X6_noise l G b (setc (setc y 2 (y 0)) 0 (daysP n.toNat (y 0)))  (VT_up hd (by omega))) mb_X6_noise mv_X6_noise wl_X6_80 f_X6 wm_obj dX6_on_57 ?_
          refine jx_st (st' := [vI (noiseP (daysP n.toNat (y 0)))]) (by first | rfl | (simp only [setc_at]; done) | (simp only [setc_at]; rfl)) ?_
          refine jx_goto (tgt := 67) E dX6_on_60 (by decide) ?_
          refine jx_istore_n E dX6_on_67 (by decide) [(3, vI (noiseP (daysP n.toNat (y 0)))), (0, .ref (b 0)), (1, vI n), (2, vI w)] rfl ?_
          refine jx_aload_n E 1 dX6_on_68 rfl ?_
          refine jx_callVv E [] [] (c_X6_putsBack l G b (setc (setc y 2 (y 0)) 0 (daysP n.toNat (y 0)))  ) mb_X6_putsBack mv_X6_putsBack wl_X6_137 f_X6 wm_obj dX6_on_69 ?_
          refine jx_eq (ws' := wsM G b (setc (setc y 2 (y 0)) 0 (y 0))) (congrArg (wsM G b) (by first | rfl | (rw [setc_setc]; rfl) | (simp only [setc_setc, setc_at]; done) | (simp only [setc_setc, setc_at]; rfl) | (funext d; simp only [setc_app]; (repeat' split) <;> first | rfl | omega | simp_all))) ?_
          refine jx_iload_n E 0 dX6_on_72 rfl ?_
          exact jx_iret E hr dX6_on_73 (by have hV : v400 n ∧ 0 ≤ w ∧ w ≤ 2 := (by omega); simp only [onR, if_pos hV]; simp only [onV]; omega) (by have hV : v400 n ∧ 0 ≤ w ∧ w ≤ 2 := (by omega); have e : (onR (y 0) n w) = noiseP (daysP n.toNat (y 0)) := (by simp only [onR, if_pos hV]; simp only [onV]; omega); rw [e, if_pos hV, endM_n (by omega)]; rfl)
      · skip
        refine jx_aload_n E 0 dX6_on_42 rfl ?_
        refine jx_get E f_X6 0 (v := .ref (b 1)) wm_obj (by decide) wf_X6_9 rfl dX6_on_43 ?_
        refine jx_iconst E dX6_on_46 ?_
        refine jx_iald E (v := (daysP n.toNat (y 0)) 1) wm_m (row0_at (by omega) (by omega)) (by omega) (by omega) (by decide) dX6_on_47 ?_
        refine jx_goto (tgt := 67) E dX6_on_48 (by decide) ?_
        refine jx_istore_n E dX6_on_67 (by decide) [(3, vI ((daysP n.toNat (y 0)) 1)), (0, .ref (b 0)), (1, vI n), (2, vI w)] rfl ?_
        refine jx_aload_n E 1 dX6_on_68 rfl ?_
        refine jx_callVv E [] [] (c_X6_putsBack l G b (setc (setc y 2 (y 0)) 0 (daysP n.toNat (y 0)))  ) mb_X6_putsBack mv_X6_putsBack wl_X6_137 f_X6 wm_obj dX6_on_69 ?_
        refine jx_eq (ws' := wsM G b (setc (setc y 2 (y 0)) 0 (y 0))) (congrArg (wsM G b) (by first | rfl | (rw [setc_setc]; rfl) | (simp only [setc_setc, setc_at]; done) | (simp only [setc_setc, setc_at]; rfl) | (funext d; simp only [setc_app]; (repeat' split) <;> first | rfl | omega | simp_all))) ?_
        refine jx_iload_n E 0 dX6_on_72 rfl ?_
        exact jx_iret E hr dX6_on_73 (by have hV : v400 n ∧ 0 ≤ w ∧ w ≤ 2 := (by omega); simp only [onR, if_pos hV]; simp only [onV]; omega) (by have hV : v400 n ∧ 0 ≤ w ∧ w ≤ 2 := (by omega); have e : (onR (y 0) n w) = (daysP n.toNat (y 0)) 1 := (by simp only [onR, if_pos hV]; simp only [onV]; omega); rw [e, if_pos hV, endM_n (by omega)]; rfl)
    · skip
      refine jx_aload_n E 0 dX6_on_22 rfl ?_
      refine jx_ldc E wc_X6_35 dX6_on_23 ?_
      refine jx_callVi E [vI (-1000000001)] [] (c_X6_finds l G b y (f := (-1000000001)) (by omega)) mb_X6_finds mv_X6_finds wl_X6_37 f_X6 wm_obj dX6_on_25 ?_
      exact jx_iret E hr dX6_on_28 (by have hV : ¬ (v400 n ∧ 0 ≤ w ∧ w ≤ 2) := (by omega); simp only [onR, if_neg hV]) (by have hV : ¬ (v400 n ∧ 0 ≤ w ∧ w ≤ 2) := (by omega); simp only [onR, if_neg hV]; rw [endM_f (by decide)])
set_option maxHeartbeats 4000000 in
theorem c_X6_then (l : Launch) (G : GT) (b : Nat → Nat) (y : MS) {f n w : Int} (h1 : VT 99999 (y 0)) (h2 : inR f) (h3 : inR n) (h4 : inR w) : CtI l G yX6_then cX6_then 5 (some .int) 7 [.ref (b 0), vI f, vI n, vI w] (wsM G b y) (thenR (y 0) f n w) (wsM G b (endM (if vFou (y 0) f ∧ v400 n ∧ 0 ≤ w ∧ w ≤ 2 then thinkM y else y) (thenR (y 0) f n w))) := by
  obtain ⟨v0, v1, v2, v3, v4, v5, v6, v7⟩ := id h1
  unfold inR at h2 h3 h4
  have hd := VT_days h1 n.toNat
  have hd1 := hd.2.1
  have hd4 := days_4 h1 n.toNat
  have hb : vFou (y 0) f → 0 ≤ w ∧ w ≤ 2 → 0 ≤ daysP n.toNat (y 0) (21 + 5 * f + (2 + w)) := fun q r => by obtain ⟨a1, a2, a3, a4, a5⟩ := hd.2.2.2.2.2.2.2 f q.1 (by omega); rcases (show w = 0 ∨ w = 1 ∨ w = 2 by omega) with e | e | e <;> subst e <;> first | exact a3.1 | exact a4.1 | exact a5.1
  refine CtI.of (by decide) (Nat.le_of_ble_eq_true rfl) ?_
  intro p e s m args below meth c A E hr
  refine jx_lv (lv' := [(0, .ref (b 0)), (1, vI f), (2, vI n), (3, vI w)]) [0, 1, 2, 3] rfl ?_
  refine jx_aload_n E 0 dX6_then_0 rfl ?_
  refine jx_iload_n E 1 dX6_then_1 rfl ?_
  refine jx_callVi E [vI f] [] (c_X6_isFountain l G b y (f := f) (by unfold inR; omega) (by omega)) mb_X6_isFountain mv_X6_isFountain wl_X6_95 f_X6 wm_obj dX6_then_2 ?_
  refine jx_if_eq (tgt := 30) E dX6_then_5 (by decide) (fun c1 => ?_) (fun c1 => ?_)
  · skip
    refine jx_aload_n E 0 dX6_then_30 rfl ?_
    refine jx_ldc E wc_X6_35 dX6_then_31 ?_
    refine jx_callVi E [vI (-1000000001)] [] (c_X6_finds l G b y (f := (-1000000001)) (by omega)) mb_X6_finds mv_X6_finds wl_X6_37 f_X6 wm_obj dX6_then_33 ?_
    exact jx_iret E hr dX6_then_36 (by have hV : ¬ (vFou (y 0) f ∧ v400 n ∧ 0 ≤ w ∧ w ≤ 2) := (by omega); simp only [thenR, if_neg hV]) (by have hV : ¬ (vFou (y 0) f ∧ v400 n ∧ 0 ≤ w ∧ w ≤ 2) := (by omega); simp only [thenR, if_neg hV]; rw [endM_f (by decide)])
  · skip
    refine jx_iload_n E 2 dX6_then_8 rfl ?_
    refine jx_i2l E dX6_then_9 ?_
    refine jx_iconst E dX6_then_10 ?_
    refine jx_sipush E dX6_then_11 ?_
    refine jx_callSi E [vL n, vI 0, vI 400] [] (c_X6_in l G (wsM G b y) (v := n) (lo := 0) (hi := 400) (by unfold inL; omega) (by unfold inR; omega) (by unfold inR; omega)) mb_X6_in ms_X6_in wl_X6_41 dX6_then_14 ?_
    refine jx_if_eq (tgt := 30) E dX6_then_17 (by decide) (fun c2 => ?_) (fun c2 => ?_)
    · skip
      refine jx_aload_n E 0 dX6_then_30 rfl ?_
      refine jx_ldc E wc_X6_35 dX6_then_31 ?_
      refine jx_callVi E [vI (-1000000001)] [] (c_X6_finds l G b y (f := (-1000000001)) (by omega)) mb_X6_finds mv_X6_finds wl_X6_37 f_X6 wm_obj dX6_then_33 ?_
      exact jx_iret E hr dX6_then_36 (by have hV : ¬ (vFou (y 0) f ∧ v400 n ∧ 0 ≤ w ∧ w ≤ 2) := (by omega); simp only [thenR, if_neg hV]) (by have hV : ¬ (vFou (y 0) f ∧ v400 n ∧ 0 ≤ w ∧ w ≤ 2) := (by omega); simp only [thenR, if_neg hV]; rw [endM_f (by decide)])
    · skip
      refine jx_iload_n E 3 dX6_then_20 rfl ?_
      refine jx_i2l E dX6_then_21 ?_
      refine jx_iconst E dX6_then_22 ?_
      refine jx_iconst E dX6_then_23 ?_
      refine jx_callSi E [vL w, vI 0, vI 2] [] (c_X6_in l G (wsM G b y) (v := w) (lo := 0) (hi := 2) (by unfold inL; omega) (by unfold inR; omega) (by unfold inR; omega)) mb_X6_in ms_X6_in wl_X6_41 dX6_then_24 ?_
      refine jx_if_ne (tgt := 37) E dX6_then_27 (by decide) (fun c3 => ?_) (fun c3 => ?_)
      · skip
        refine jx_aload_n E 0 dX6_then_37 rfl ?_
        refine jx_callVv E [] [] (c_X6_thinks l G b y  ) mb_X6_thinks mv_X6_thinks wl_X6_134 f_X6 wm_obj dX6_then_38 ?_
        refine jx_eq (ws' := wsM G b (setc (setc y 2 (y 0)) 0 (y 0))) (congrArg (wsM G b) (by first | rfl | (rw [setc_setc]; rfl) | (simp only [setc_setc, setc_at]; done) | (simp only [setc_setc, setc_at]; rfl) | (funext d; simp only [setc_app]; (repeat' split) <;> first | rfl | omega | simp_all))) ?_
        refine jx_aload_n E 0 dX6_then_41 rfl ?_
        refine jx_iload_n E 2 dX6_then_42 rfl ?_
        refine jx_callVv E [vI n] [] (c_X6_goesFor l G b (setc (setc y 2 (y 0)) 0 (y 0)) (n := n) (VT_up h1 (by omega)) (by omega)) mb_X6_goesFor mv_X6_goesFor wl_X6_127 f_X6 wm_obj dX6_then_43 ?_
        refine jx_eq (ws' := wsM G b (setc (setc y 2 (y 0)) 0 (daysP n.toNat (y 0)))) (congrArg (wsM G b) (by first | rfl | (rw [setc_setc]; rfl) | (simp only [setc_setc, setc_at]; done) | (simp only [setc_setc, setc_at]; rfl) | (funext d; simp only [setc_app]; (repeat' split) <;> first | rfl | omega | simp_all))) ?_
        refine jx_aload_n E 0 dX6_then_46 rfl ?_
        refine jx_iload_n E 1 dX6_then_47 rfl ?_
        refine jx_iconst E dX6_then_48 ?_
        refine jx_iload_n E 3 dX6_then_49 rfl ?_
        refine jx_iadd E dX6_then_50 ?_
        refine jx_callVi E [vI f, vI (2 + w)] [] (c_X6_it l G b (setc (setc y 2 (y 0)) 0 (daysP n.toNat (y 0))) (f := f) (what := 2 + w) (by omega) (by omega) (by omega) (by omega)) mb_X6_it mv_X6_it wl_X6_49 f_X6 wm_obj dX6_then_51 ?_
        refine jx_st (st' := [vI ((daysP n.toNat (y 0)) (21 + 5 * f + (2 + w)))]) (by first | rfl | (simp only [setc_at]; done) | (simp only [setc_at]; rfl)) ?_
        refine jx_istore E dX6_then_54 (by decide) [(4, vI ((daysP n.toNat (y 0)) (21 + 5 * f + (2 + w)))), (0, .ref (b 0)), (1, vI f), (2, vI n), (3, vI w)] rfl ?_
        refine jx_aload_n E 1 dX6_then_56 rfl ?_
        refine jx_callVv E [] [] (c_X6_putsBack l G b (setc (setc y 2 (y 0)) 0 (daysP n.toNat (y 0)))  ) mb_X6_putsBack mv_X6_putsBack wl_X6_137 f_X6 wm_obj dX6_then_57 ?_
        refine jx_eq (ws' := wsM G b (setc (setc y 2 (y 0)) 0 (y 0))) (congrArg (wsM G b) (by first | rfl | (rw [setc_setc]; rfl) | (simp only [setc_setc, setc_at]; done) | (simp only [setc_setc, setc_at]; rfl) | (funext d; simp only [setc_app]; (repeat' split) <;> first | rfl | omega | simp_all))) ?_
        refine jx_iload E 0 dX6_then_60 rfl ?_
        exact jx_iret E hr dX6_then_62 (by have hV : vFou (y 0) f ∧ v400 n ∧ 0 ≤ w ∧ w ≤ 2 := (by omega); simp only [thenR, if_pos hV]; try rfl) (by have hV : vFou (y 0) f ∧ v400 n ∧ 0 ≤ w ∧ w ≤ 2 := (by omega); have e : (thenR (y 0) f n w) = (daysP n.toNat (y 0)) (21 + 5 * f + (2 + w)) := (by simp only [thenR, if_pos hV]; try rfl); rw [e, if_pos hV, endM_n (by omega)]; rfl)
      · skip
        refine jx_aload_n E 0 dX6_then_30 rfl ?_
        refine jx_ldc E wc_X6_35 dX6_then_31 ?_
        refine jx_callVi E [vI (-1000000001)] [] (c_X6_finds l G b y (f := (-1000000001)) (by omega)) mb_X6_finds mv_X6_finds wl_X6_37 f_X6 wm_obj dX6_then_33 ?_
        exact jx_iret E hr dX6_then_36 (by have hV : ¬ (vFou (y 0) f ∧ v400 n ∧ 0 ≤ w ∧ w ≤ 2) := (by omega); simp only [thenR, if_neg hV]) (by have hV : ¬ (vFou (y 0) f ∧ v400 n ∧ 0 ≤ w ∧ w ≤ 2) := (by omega); simp only [thenR, if_neg hV]; rw [endM_f (by decide)])
set_option maxHeartbeats 4000000 in
theorem c_X6_falls (l : Launch) (G : GT) (b : Nat → Nat) (y : MS) {v : Int} (h1 : VT 99999 (y 0)) (h2 : inR v) : CtI l G yX6_falls cX6_falls 3 (some .int) 6 [.ref (b 0), vI v] (wsM G b y) (fallsR (y 0) v) (wsM G b (endM (if 0 ≤ v ∧ v ≤ 9999 then thinkM y else y) (fallsR (y 0) v))) := by
  obtain ⟨v0, v1, v2, v3, v4, v5, v6, v7⟩ := id h1
  unfold inR at h2
  refine CtI.of (by decide) (Nat.le_of_ble_eq_true rfl) ?_
  intro p e s m args below meth c A E hr
  refine jx_lv (lv' := [(0, .ref (b 0)), (1, vI v)]) [0, 1] rfl ?_
  refine jx_iload_n E 1 dX6_falls_0 rfl ?_
  refine jx_i2l E dX6_falls_1 ?_
  refine jx_iconst E dX6_falls_2 ?_
  refine jx_sipush E dX6_falls_3 ?_
  refine jx_callSi E [vL v, vI 0, vI 9999] [] (c_X6_in l G (wsM G b y) (v := v) (lo := 0) (hi := 9999) (by unfold inL; omega) (by unfold inR; omega) (by unfold inR; omega)) mb_X6_in ms_X6_in wl_X6_41 dX6_falls_6 ?_
  refine jx_if_ne (tgt := 19) E dX6_falls_9 (by decide) (fun c1 => ?_) (fun c1 => ?_)
  · skip
    refine jx_aload_n E 0 dX6_falls_19 rfl ?_
    refine jx_callVv E [] [] (c_X6_thinks l G b y  ) mb_X6_thinks mv_X6_thinks wl_X6_134 f_X6 wm_obj dX6_falls_20 ?_
    refine jx_eq (ws' := wsM G b (setc (setc y 2 (y 0)) 0 (y 0))) (congrArg (wsM G b) (by first | rfl | (rw [setc_setc]; rfl) | (simp only [setc_setc, setc_at]; done) | (simp only [setc_setc, setc_at]; rfl) | (funext d; simp only [setc_app]; (repeat' split) <;> first | rfl | omega | simp_all))) ?_
    refine jx_iconst E dX6_falls_23 ?_
    refine jx_istore_n E dX6_falls_24 (by decide) [(2, vI 0), (0, .ref (b 0)), (1, vI v)] rfl ?_
    have LP25 : ∀ (n2 : Nat) (k : Nat) (T : Int → Int), (k ≤ 401) → (k < n2) → (VT (100400 - k) T) → (T 4 = y 0 4) → (fallsF v k T = fallsF v 401 (y 0)) → JX p l e (rmL 6) s m args below meth c 3 G A 0 0 (QI below args s G A (fallsR (y 0) v) (wsM G b (endM (if 0 ≤ v ∧ v ≤ 9999 then thinkM y else y) (fallsR (y 0) v)))) (wsM G b (setc (setc y 2 (y 0)) 0 T)) 25 [(2, vI (401 - (k : Int))), (0, .ref (b 0)), (1, vI v)] [] := by
      intro n2
      induction n2 with
      | zero => intro k T q1 q2 hT hT4 hQ; exfalso; omega
      | succ n2 ih =>
        intro k T q1 q2 hT hT4 hQ
        have hT1 := hT.2.1
        refine jx_iload_n E 0 dX6_falls_25 rfl ?_
        refine jx_sipush E dX6_falls_26 ?_
        refine jx_icmp_gt (tgt := 52) E dX6_falls_29 (by decide) (fun c2 => ?_) (fun c2 => ?_)
        · skip
          refine jx_aload_n E 1 dX6_falls_52 rfl ?_
          refine jx_callVv E [] [] (c_X6_putsBack l G b (setc (setc y 2 (y 0)) 0 T)  ) mb_X6_putsBack mv_X6_putsBack wl_X6_137 f_X6 wm_obj dX6_falls_53 ?_
          refine jx_eq (ws' := wsM G b (setc (setc y 2 (y 0)) 0 (y 0))) (congrArg (wsM G b) (by first | rfl | (rw [setc_setc]; rfl) | (simp only [setc_setc, setc_at]; done) | (simp only [setc_setc, setc_at]; rfl) | (funext d; simp only [setc_app]; (repeat' split) <;> first | rfl | omega | simp_all))) ?_
          refine jx_iload_n E 0 dX6_falls_56 rfl ?_
          refine jx_sipush E dX6_falls_57 ?_
          refine jx_icmp_le (tgt := 72) E dX6_falls_60 (by decide) (fun c3 => ?_) (fun c3 => ?_)
          · skip
            refine jx_iload_n E 0 dX6_falls_72 rfl ?_
            exact jx_iret E hr dX6_falls_73 (by have hV : 0 ≤ v ∧ v ≤ 9999 := (by omega); simp only [fallsR, if_pos hV]; rw [← hQ]; rcases (show k = 0 ∨ ∃ k', k = k' + 1 from by rcases k with _ | k'; exact Or.inl rfl; exact Or.inr ⟨k', rfl⟩) with e | ⟨k', e⟩ <;> subst e <;> simp only [fallsF, farR] <;> omega) (by have hV : 0 ≤ v ∧ v ≤ 9999 := (by omega); have e : (fallsR (y 0) v) = 401 - (k : Int) := (by simp only [fallsR, if_pos hV]; rw [← hQ]; rcases (show k = 0 ∨ ∃ k', k = k' + 1 from by rcases k with _ | k'; exact Or.inl rfl; exact Or.inr ⟨k', rfl⟩) with e | ⟨k', e⟩ <;> subst e <;> simp only [fallsF, farR] <;> omega); rw [e, if_pos hV, endM_n (by omega)]; rfl)
          · skip
            refine jx_aload_n E 1 dX6_falls_63 rfl ?_
            refine jx_ldc E wc_X6_36 dX6_falls_64 ?_
            refine jx_callVi E [vI (-1000000004)] [] (c_X6_finds l G b (setc (setc y 2 (y 0)) 0 (y 0)) (f := (-1000000004)) (by omega)) mb_X6_finds mv_X6_finds wl_X6_37 f_X6 wm_obj dX6_falls_66 ?_
            refine jx_st (st' := [vI (-1000000004)]) (by first | rfl | (simp only [setc_at]; done) | (simp only [setc_at]; rfl)) ?_
            refine jx_goto (tgt := 73) E dX6_falls_69 (by decide) ?_
            exact jx_iret E hr dX6_falls_73 (by have hV : 0 ≤ v ∧ v ≤ 9999 := (by omega); simp only [fallsR, if_pos hV]; rw [← hQ]; rcases (show k = 0 ∨ ∃ k', k = k' + 1 from by rcases k with _ | k'; exact Or.inl rfl; exact Or.inr ⟨k', rfl⟩) with e | ⟨k', e⟩ <;> subst e <;> simp only [fallsF, farR] <;> omega) (by have hV : 0 ≤ v ∧ v ≤ 9999 := (by omega); have e : (fallsR (y 0) v) = (-1000000004) := (by simp only [fallsR, if_pos hV]; rw [← hQ]; rcases (show k = 0 ∨ ∃ k', k = k' + 1 from by rcases k with _ | k'; exact Or.inl rfl; exact Or.inr ⟨k', rfl⟩) with e | ⟨k', e⟩ <;> subst e <;> simp only [fallsF, farR] <;> omega); rw [e, if_pos hV, endM_f (by decide)]; rfl)
        · skip
          refine jx_aload_n E 1 dX6_falls_32 rfl ?_
          refine jx_get E f_X6 0 (v := .ref (b 1)) wm_obj (by decide) wf_X6_9 rfl dX6_falls_33 ?_
          refine jx_iconst E dX6_falls_36 ?_
          refine jx_iald E (v := T 1) wm_m (row0_at (by omega) (by omega)) (by omega) (by omega) (by decide) dX6_falls_37 ?_
          refine jx_iload_n E 2 dX6_falls_38 rfl ?_
          refine jx_icmp_le (tgt := 52) E dX6_falls_39 (by decide) (fun c4 => ?_) (fun c4 => ?_)
          · skip
            refine jx_aload_n E 1 dX6_falls_52 rfl ?_
            refine jx_callVv E [] [] (c_X6_putsBack l G b (setc (setc y 2 (y 0)) 0 T)  ) mb_X6_putsBack mv_X6_putsBack wl_X6_137 f_X6 wm_obj dX6_falls_53 ?_
            refine jx_eq (ws' := wsM G b (setc (setc y 2 (y 0)) 0 (y 0))) (congrArg (wsM G b) (by first | rfl | (rw [setc_setc]; rfl) | (simp only [setc_setc, setc_at]; done) | (simp only [setc_setc, setc_at]; rfl) | (funext d; simp only [setc_app]; (repeat' split) <;> first | rfl | omega | simp_all))) ?_
            refine jx_iload_n E 0 dX6_falls_56 rfl ?_
            refine jx_sipush E dX6_falls_57 ?_
            refine jx_icmp_le (tgt := 72) E dX6_falls_60 (by decide) (fun c5 => ?_) (fun c5 => ?_)
            · skip
              refine jx_iload_n E 0 dX6_falls_72 rfl ?_
              exact jx_iret E hr dX6_falls_73 (by have hV : 0 ≤ v ∧ v ≤ 9999 := (by omega); simp only [fallsR, if_pos hV]; rw [← hQ]; rcases (show k = 0 ∨ ∃ k', k = k' + 1 from by rcases k with _ | k'; exact Or.inl rfl; exact Or.inr ⟨k', rfl⟩) with e | ⟨k', e⟩ <;> subst e <;> simp only [fallsF, farR] <;> omega) (by have hV : 0 ≤ v ∧ v ≤ 9999 := (by omega); have e : (fallsR (y 0) v) = 401 - (k : Int) := (by simp only [fallsR, if_pos hV]; rw [← hQ]; rcases (show k = 0 ∨ ∃ k', k = k' + 1 from by rcases k with _ | k'; exact Or.inl rfl; exact Or.inr ⟨k', rfl⟩) with e | ⟨k', e⟩ <;> subst e <;> simp only [fallsF, farR] <;> omega); rw [e, if_pos hV, endM_n (by omega)]; rfl)
            · skip
              refine jx_aload_n E 1 dX6_falls_63 rfl ?_
              refine jx_ldc E wc_X6_36 dX6_falls_64 ?_
              refine jx_callVi E [vI (-1000000004)] [] (c_X6_finds l G b (setc (setc y 2 (y 0)) 0 (y 0)) (f := (-1000000004)) (by omega)) mb_X6_finds mv_X6_finds wl_X6_37 f_X6 wm_obj dX6_falls_66 ?_
              refine jx_st (st' := [vI (-1000000004)]) (by first | rfl | (simp only [setc_at]; done) | (simp only [setc_at]; rfl)) ?_
              refine jx_goto (tgt := 73) E dX6_falls_69 (by decide) ?_
              exact jx_iret E hr dX6_falls_73 (by have hV : 0 ≤ v ∧ v ≤ 9999 := (by omega); simp only [fallsR, if_pos hV]; rw [← hQ]; rcases (show k = 0 ∨ ∃ k', k = k' + 1 from by rcases k with _ | k'; exact Or.inl rfl; exact Or.inr ⟨k', rfl⟩) with e | ⟨k', e⟩ <;> subst e <;> simp only [fallsF, farR] <;> omega) (by have hV : 0 ≤ v ∧ v ≤ 9999 := (by omega); have e : (fallsR (y 0) v) = (-1000000004) := (by simp only [fallsR, if_pos hV]; rw [← hQ]; rcases (show k = 0 ∨ ∃ k', k = k' + 1 from by rcases k with _ | k'; exact Or.inl rfl; exact Or.inr ⟨k', rfl⟩) with e | ⟨k', e⟩ <;> subst e <;> simp only [fallsF, farR] <;> omega); rw [e, if_pos hV, endM_f (by decide)]; rfl)
          · skip
            refine jx_aload_n E 1 dX6_falls_42 rfl ?_
            refine jx_callVv E [] [] (c_X6_goes l G b (setc (setc y 2 (y 0)) 0 T)  (VT_up hT (by omega))) mb_X6_goes mv_X6_goes wl_X6_122 f_X6 wm_obj dX6_falls_43 ?_
            refine jx_eq (ws' := wsM G b (setc (setc y 2 (y 0)) 0 (dayP T))) (congrArg (wsM G b) (by first | rfl | (rw [setc_setc]; rfl) | (simp only [setc_setc, setc_at]; done) | (simp only [setc_setc, setc_at]; rfl) | (funext d; simp only [setc_app]; (repeat' split) <;> first | rfl | omega | simp_all))) ?_
            refine jx_iinc E 0 dX6_falls_46 rfl (by decide) [(2, vI (401 - (k : Int) + 1)), (0, .ref (b 0)), (1, vI v)] rfl ?_
            refine jx_goto (tgt := 25) E dX6_falls_49 (by decide) ?_
            obtain ⟨k', rfl⟩ : ∃ k', k = k' + 1 := ⟨k - 1, by omega⟩
            refine jx_lve (congrArg (fun z => [(2, vI z), (0, Value.ref (b 0)), (1, vI v)]) (show 401 - ((k' + 1 : Nat) : Int) + 1 = 401 - (k' : Int) by omega)) ?_
            exact ih k' (dayP T) (by omega) (by omega) (VT_up (VT_day hT) (by omega)) (by rw [day_4 hT, hT4]) (by rw [← hQ, fallsF, if_neg (by omega)])
    exact LP25 402 401 (y 0) (by omega) (by omega) (VT_up h1 (by omega)) rfl rfl
  · skip
    refine jx_aload_n E 0 dX6_falls_12 rfl ?_
    refine jx_ldc E wc_X6_35 dX6_falls_13 ?_
    refine jx_callVi E [vI (-1000000001)] [] (c_X6_finds l G b y (f := (-1000000001)) (by omega)) mb_X6_finds mv_X6_finds wl_X6_37 f_X6 wm_obj dX6_falls_15 ?_
    exact jx_iret E hr dX6_falls_18 (by have hV : ¬ (0 ≤ v ∧ v ≤ 9999) := (by omega); simp only [fallsR, if_neg hV]) (by have hV : ¬ (0 ≤ v ∧ v ≤ 9999) := (by omega); simp only [fallsR, if_neg hV]; rw [endM_f (by decide)])
set_option maxHeartbeats 4000000 in
theorem c_X6_quiet (l : Launch) (G : GT) (b : Nat → Nat) (y : MS) (h1 : VT 99999 (y 0)) : CtI l G yX6_quiet cX6_quiet 2 (some .int) 6 [.ref (b 0)] (wsM G b y) (quietR (y 0)) (wsM G b (endM (thinkM y) (quietR (y 0)))) := by
  obtain ⟨v0, v1, v2, v3, v4, v5, v6, v7⟩ := id h1
  refine CtI.of (by decide) (Nat.le_of_ble_eq_true rfl) ?_
  intro p e s m args below meth c A E hr
  refine jx_lv (lv' := [(0, .ref (b 0))]) [0] rfl ?_
  refine jx_aload_n E 0 dX6_quiet_0 rfl ?_
  refine jx_callVv E [] [] (c_X6_thinks l G b y  ) mb_X6_thinks mv_X6_thinks wl_X6_134 f_X6 wm_obj dX6_quiet_1 ?_
  refine jx_eq (ws' := wsM G b (setc (setc y 2 (y 0)) 0 (y 0))) (congrArg (wsM G b) (by first | rfl | (rw [setc_setc]; rfl) | (simp only [setc_setc, setc_at]; done) | (simp only [setc_setc, setc_at]; rfl) | (funext d; simp only [setc_app]; (repeat' split) <;> first | rfl | omega | simp_all))) ?_
  refine jx_iconst E dX6_quiet_4 ?_
  refine jx_istore_n E dX6_quiet_5 (by decide) [(1, vI 0), (0, .ref (b 0))] rfl ?_
  have LP6 : ∀ (n2 : Nat) (k : Nat) (T : Int → Int), (k ≤ 401) → (k < n2) → (VT (100400 - k) T) → (T 4 = y 0 4) → (quietF k T = quietF 401 (y 0)) → JX p l e (rmL 6) s m args below meth c 2 G A 0 0 (QI below args s G A (quietR (y 0)) (wsM G b (endM (thinkM y) (quietR (y 0))))) (wsM G b (setc (setc y 2 (y 0)) 0 T)) 6 [(1, vI (401 - (k : Int))), (0, .ref (b 0))] [] := by
    intro n2
    induction n2 with
    | zero => intro k T q1 q2 hT hT4 hQ; exfalso; omega
    | succ n2 ih =>
      intro k T q1 q2 hT hT4 hQ
      have hTn := noise_in hT
      refine jx_iload_n E 0 dX6_quiet_6 rfl ?_
      refine jx_sipush E dX6_quiet_7 ?_
      refine jx_icmp_gt (tgt := 30) E dX6_quiet_10 (by decide) (fun c1 => ?_) (fun c1 => ?_)
      · skip
        refine jx_aload_n E 1 dX6_quiet_30 rfl ?_
        refine jx_callVv E [] [] (c_X6_putsBack l G b (setc (setc y 2 (y 0)) 0 T)  ) mb_X6_putsBack mv_X6_putsBack wl_X6_137 f_X6 wm_obj dX6_quiet_31 ?_
        refine jx_eq (ws' := wsM G b (setc (setc y 2 (y 0)) 0 (y 0))) (congrArg (wsM G b) (by first | rfl | (rw [setc_setc]; rfl) | (simp only [setc_setc, setc_at]; done) | (simp only [setc_setc, setc_at]; rfl) | (funext d; simp only [setc_app]; (repeat' split) <;> first | rfl | omega | simp_all))) ?_
        refine jx_iload_n E 0 dX6_quiet_34 rfl ?_
        refine jx_sipush E dX6_quiet_35 ?_
        refine jx_icmp_le (tgt := 50) E dX6_quiet_38 (by decide) (fun c2 => ?_) (fun c2 => ?_)
        · skip
          refine jx_iload_n E 0 dX6_quiet_50 rfl ?_
          exact jx_iret E hr dX6_quiet_51 (by simp only [quietR]; rw [← hQ]; rcases (show k = 0 ∨ ∃ k', k = k' + 1 from by rcases k with _ | k'; exact Or.inl rfl; exact Or.inr ⟨k', rfl⟩) with e | ⟨k', e⟩ <;> subst e <;> simp only [quietF, farR] <;> omega) (by have e : (quietR (y 0)) = 401 - (k : Int) := (by simp only [quietR]; rw [← hQ]; rcases (show k = 0 ∨ ∃ k', k = k' + 1 from by rcases k with _ | k'; exact Or.inl rfl; exact Or.inr ⟨k', rfl⟩) with e | ⟨k', e⟩ <;> subst e <;> simp only [quietF, farR] <;> omega); rw [e, endM_n (by omega)]; rfl)
        · skip
          refine jx_aload_n E 1 dX6_quiet_41 rfl ?_
          refine jx_ldc E wc_X6_36 dX6_quiet_42 ?_
          refine jx_callVi E [vI (-1000000004)] [] (c_X6_finds l G b (setc (setc y 2 (y 0)) 0 (y 0)) (f := (-1000000004)) (by omega)) mb_X6_finds mv_X6_finds wl_X6_37 f_X6 wm_obj dX6_quiet_44 ?_
          refine jx_st (st' := [vI (-1000000004)]) (by first | rfl | (simp only [setc_at]; done) | (simp only [setc_at]; rfl)) ?_
          refine jx_goto (tgt := 51) E dX6_quiet_47 (by decide) ?_
          exact jx_iret E hr dX6_quiet_51 (by simp only [quietR]; rw [← hQ]; rcases (show k = 0 ∨ ∃ k', k = k' + 1 from by rcases k with _ | k'; exact Or.inl rfl; exact Or.inr ⟨k', rfl⟩) with e | ⟨k', e⟩ <;> subst e <;> simp only [quietF, farR] <;> omega) (by have e : (quietR (y 0)) = (-1000000004) := (by simp only [quietR]; rw [← hQ]; rcases (show k = 0 ∨ ∃ k', k = k' + 1 from by rcases k with _ | k'; exact Or.inl rfl; exact Or.inr ⟨k', rfl⟩) with e | ⟨k', e⟩ <;> subst e <;> simp only [quietF, farR] <;> omega); rw [e, endM_f (by decide)]; rfl)
      · skip
        refine jx_aload_n E 1 dX6_quiet_13 rfl ?_
        refine jx_callVi E [] [] (c_X6_noise l G b (setc (setc y 2 (y 0)) 0 T)  (VT_up hT (by omega))) mb_X6_noise mv_X6_noise wl_X6_80 f_X6 wm_obj dX6_quiet_14 ?_
        refine jx_st (st' := [vI (noiseP T)]) (by first | rfl | (simp only [setc_at]; done) | (simp only [setc_at]; rfl)) ?_
        refine jx_if_le (tgt := 30) E dX6_quiet_17 (by decide) (fun c3 => ?_) (fun c3 => ?_)
        · skip
          refine jx_aload_n E 1 dX6_quiet_30 rfl ?_
          refine jx_callVv E [] [] (c_X6_putsBack l G b (setc (setc y 2 (y 0)) 0 T)  ) mb_X6_putsBack mv_X6_putsBack wl_X6_137 f_X6 wm_obj dX6_quiet_31 ?_
          refine jx_eq (ws' := wsM G b (setc (setc y 2 (y 0)) 0 (y 0))) (congrArg (wsM G b) (by first | rfl | (rw [setc_setc]; rfl) | (simp only [setc_setc, setc_at]; done) | (simp only [setc_setc, setc_at]; rfl) | (funext d; simp only [setc_app]; (repeat' split) <;> first | rfl | omega | simp_all))) ?_
          refine jx_iload_n E 0 dX6_quiet_34 rfl ?_
          refine jx_sipush E dX6_quiet_35 ?_
          refine jx_icmp_le (tgt := 50) E dX6_quiet_38 (by decide) (fun c4 => ?_) (fun c4 => ?_)
          · skip
            refine jx_iload_n E 0 dX6_quiet_50 rfl ?_
            exact jx_iret E hr dX6_quiet_51 (by simp only [quietR]; rw [← hQ]; rcases (show k = 0 ∨ ∃ k', k = k' + 1 from by rcases k with _ | k'; exact Or.inl rfl; exact Or.inr ⟨k', rfl⟩) with e | ⟨k', e⟩ <;> subst e <;> simp only [quietF, farR] <;> omega) (by have e : (quietR (y 0)) = 401 - (k : Int) := (by simp only [quietR]; rw [← hQ]; rcases (show k = 0 ∨ ∃ k', k = k' + 1 from by rcases k with _ | k'; exact Or.inl rfl; exact Or.inr ⟨k', rfl⟩) with e | ⟨k', e⟩ <;> subst e <;> simp only [quietF, farR] <;> omega); rw [e, endM_n (by omega)]; rfl)
          · skip
            refine jx_aload_n E 1 dX6_quiet_41 rfl ?_
            refine jx_ldc E wc_X6_36 dX6_quiet_42 ?_
            refine jx_callVi E [vI (-1000000004)] [] (c_X6_finds l G b (setc (setc y 2 (y 0)) 0 (y 0)) (f := (-1000000004)) (by omega)) mb_X6_finds mv_X6_finds wl_X6_37 f_X6 wm_obj dX6_quiet_44 ?_
            refine jx_st (st' := [vI (-1000000004)]) (by first | rfl | (simp only [setc_at]; done) | (simp only [setc_at]; rfl)) ?_
            refine jx_goto (tgt := 51) E dX6_quiet_47 (by decide) ?_
            exact jx_iret E hr dX6_quiet_51 (by simp only [quietR]; rw [← hQ]; rcases (show k = 0 ∨ ∃ k', k = k' + 1 from by rcases k with _ | k'; exact Or.inl rfl; exact Or.inr ⟨k', rfl⟩) with e | ⟨k', e⟩ <;> subst e <;> simp only [quietF, farR] <;> omega) (by have e : (quietR (y 0)) = (-1000000004) := (by simp only [quietR]; rw [← hQ]; rcases (show k = 0 ∨ ∃ k', k = k' + 1 from by rcases k with _ | k'; exact Or.inl rfl; exact Or.inr ⟨k', rfl⟩) with e | ⟨k', e⟩ <;> subst e <;> simp only [quietF, farR] <;> omega); rw [e, endM_f (by decide)]; rfl)
        · skip
          refine jx_aload_n E 1 dX6_quiet_20 rfl ?_
          refine jx_callVv E [] [] (c_X6_goes l G b (setc (setc y 2 (y 0)) 0 T)  (VT_up hT (by omega))) mb_X6_goes mv_X6_goes wl_X6_122 f_X6 wm_obj dX6_quiet_21 ?_
          refine jx_eq (ws' := wsM G b (setc (setc y 2 (y 0)) 0 (dayP T))) (congrArg (wsM G b) (by first | rfl | (rw [setc_setc]; rfl) | (simp only [setc_setc, setc_at]; done) | (simp only [setc_setc, setc_at]; rfl) | (funext d; simp only [setc_app]; (repeat' split) <;> first | rfl | omega | simp_all))) ?_
          refine jx_iinc E 0 dX6_quiet_24 rfl (by decide) [(1, vI (401 - (k : Int) + 1)), (0, .ref (b 0))] rfl ?_
          refine jx_goto (tgt := 6) E dX6_quiet_27 (by decide) ?_
          obtain ⟨k', rfl⟩ : ∃ k', k = k' + 1 := ⟨k - 1, by omega⟩
          refine jx_lve (congrArg (fun z => [(1, vI z), (0, Value.ref (b 0))]) (show 401 - ((k' + 1 : Nat) : Int) + 1 = 401 - (k' : Int) by omega)) ?_
          exact ih k' (dayP T) (by omega) (by omega) (VT_up (VT_day hT) (by omega)) (by rw [day_4 hT, hT4]) (by rw [← hQ, quietF, if_neg (by omega)])
  exact LP6 402 401 (y 0) (by omega) (by omega) (VT_up h1 (by omega)) rfl rfl
set_option maxHeartbeats 4000000 in
theorem c_X6_off (l : Launch) (G : GT) (b : Nat → Nat) (y : MS) {f : Int} (h1 : VT 99999 (y 0)) (h2 : inR f) : CtI l G yX6_off cX6_off 3 (some .int) 7 [.ref (b 0), vI f] (wsM G b y) (offR (y 0) f) (wsM G b (endM (if vFou (y 0) f then thinkM y else y) (offR (y 0) f))) := by
  obtain ⟨v0, v1, v2, v3, v4, v5, v6, v7⟩ := id h1
  unfold inR at h2
  have hoo := off_in f 401 (y 0) (by omega)
  refine CtI.of (by decide) (Nat.le_of_ble_eq_true rfl) ?_
  intro p e s m args below meth c A E hr
  refine jx_lv (lv' := [(0, .ref (b 0)), (1, vI f)]) [0, 1] rfl ?_
  refine jx_aload_n E 0 dX6_off_0 rfl ?_
  refine jx_iload_n E 1 dX6_off_1 rfl ?_
  refine jx_callVi E [vI f] [] (c_X6_isFountain l G b y (f := f) (by unfold inR; omega) (by omega)) mb_X6_isFountain mv_X6_isFountain wl_X6_95 f_X6 wm_obj dX6_off_2 ?_
  refine jx_if_ne (tgt := 15) E dX6_off_5 (by decide) (fun c1 => ?_) (fun c1 => ?_)
  · skip
    refine jx_aload_n E 0 dX6_off_15 rfl ?_
    refine jx_callVv E [] [] (c_X6_thinks l G b y  ) mb_X6_thinks mv_X6_thinks wl_X6_134 f_X6 wm_obj dX6_off_16 ?_
    refine jx_eq (ws' := wsM G b (setc (setc y 2 (y 0)) 0 (y 0))) (congrArg (wsM G b) (by first | rfl | (rw [setc_setc]; rfl) | (simp only [setc_setc, setc_at]; done) | (simp only [setc_setc, setc_at]; rfl) | (funext d; simp only [setc_app]; (repeat' split) <;> first | rfl | omega | simp_all))) ?_
    refine jx_aload_n E 0 dX6_off_19 rfl ?_
    refine jx_iload_n E 1 dX6_off_20 rfl ?_
    refine jx_callVi E [vI f] [] (c_X6_offIn l G b (setc (setc y 2 (y 0)) 0 (y 0)) (f := f) (VT_up h1 (by omega)) (show 0 ≤ f ∧ f < y 0 4 by omega)) mb_X6_offIn mv_X6_offIn wl_X6_140 f_X6 wm_obj dX6_off_21 ?_
    refine jx_eq (ws' := wsM G b (setc (setc y 2 (y 0)) 0 (y 0))) (congrArg (wsM G b) (by first | rfl | (rw [setc_setc]; rfl) | (simp only [setc_setc, setc_at]; done) | (simp only [setc_setc, setc_at]; rfl) | (funext d; simp only [setc_app]; (repeat' split) <;> first | rfl | omega | simp_all))) ?_
    refine jx_st (st' := [vI (offF f 401 (y 0))]) (by first | rfl | (simp only [setc_at]; done) | (simp only [setc_at]; rfl)) ?_
    refine jx_istore_n E dX6_off_24 (by decide) [(2, vI (offF f 401 (y 0))), (0, .ref (b 0)), (1, vI f)] rfl ?_
    refine jx_iload_n E 0 dX6_off_25 rfl ?_
    refine jx_sipush E dX6_off_26 ?_
    refine jx_icmp_le (tgt := 41) E dX6_off_29 (by decide) (fun c2 => ?_) (fun c2 => ?_)
    · skip
      refine jx_iload_n E 0 dX6_off_41 rfl ?_
      exact jx_iret E hr dX6_off_42 (by have hV : vFou (y 0) f := (by omega); simp only [offR, if_pos hV]; simp only [farR]; omega) (by have hV : vFou (y 0) f := (by omega); have e : (offR (y 0) f) = offF f 401 (y 0) := (by simp only [offR, if_pos hV]; simp only [farR]; omega); rw [e, if_pos hV, endM_n (by omega)]; rfl)
    · skip
      refine jx_aload_n E 1 dX6_off_32 rfl ?_
      refine jx_ldc E wc_X6_36 dX6_off_33 ?_
      refine jx_callVi E [vI (-1000000004)] [] (c_X6_finds l G b (setc (setc y 2 (y 0)) 0 (y 0)) (f := (-1000000004)) (by omega)) mb_X6_finds mv_X6_finds wl_X6_37 f_X6 wm_obj dX6_off_35 ?_
      refine jx_st (st' := [vI (-1000000004)]) (by first | rfl | (simp only [setc_at]; done) | (simp only [setc_at]; rfl)) ?_
      refine jx_goto (tgt := 42) E dX6_off_38 (by decide) ?_
      exact jx_iret E hr dX6_off_42 (by have hV : vFou (y 0) f := (by omega); simp only [offR, if_pos hV]; simp only [farR]; omega) (by have hV : vFou (y 0) f := (by omega); have e : (offR (y 0) f) = (-1000000004) := (by simp only [offR, if_pos hV]; simp only [farR]; omega); rw [e, if_pos hV, endM_f (by decide)]; rfl)
  · skip
    refine jx_aload_n E 0 dX6_off_8 rfl ?_
    refine jx_ldc E wc_X6_35 dX6_off_9 ?_
    refine jx_callVi E [vI (-1000000001)] [] (c_X6_finds l G b y (f := (-1000000001)) (by omega)) mb_X6_finds mv_X6_finds wl_X6_37 f_X6 wm_obj dX6_off_11 ?_
    exact jx_iret E hr dX6_off_14 (by have hV : ¬ (vFou (y 0) f) := (by omega); simp only [offR, if_neg hV]) (by have hV : ¬ (vFou (y 0) f) := (by omega); simp only [offR, if_neg hV]; rw [endM_f (by decide)])
