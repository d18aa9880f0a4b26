/-! 35.x5: laid by the walker out of specX5 -/
set_option maxHeartbeats 4000000 in
theorem c_X5_found (l : Launch) (G : GT) (a : Nat → Nat) (x : MS) {f : Int} (h1 : -1000000007 ≤ f ∧ f ≤ -1000000001) : CtI l G yX5_found cX5_found 3 (some .int) 1 [.ref (a 0), vI f] (wsX G a x) f (wsX G a (setc x 4 (tallyP (x 4) f))) := by
  refine CtI.of (by decide) (Nat.le_of_ble_eq_true rfl) ?_
  intro p e s m args below meth c A E hr
  refine jx_lv (lv' := [(0, .ref (a 0)), (1, vI f)]) [0, 1] rfl ?_
  refine jx_ldc E wc_X5_53 dX5_found_0 ?_
  refine jx_iload_n E 1 dX5_found_2 rfl ?_
  refine jx_isub E dX5_found_3 ?_
  refine jx_istore_n E dX5_found_4 (by decide) [(2, vI ((-1000000001) - f)), (0, .ref (a 0)), (1, vI f)] rfl ?_
  refine jx_iload_n E 0 dX5_found_5 rfl ?_
  refine jx_if_lt (tgt := 25) E dX5_found_6 (by decide) (fun c1 => ?_) (fun c1 => ?_)
  · skip
    refine jx_iload_n E 2 dX5_found_25 rfl ?_
    exact jx_iret E hr dX5_found_26 (by first | rfl | omega) (by first | rfl | (exfalso; omega))
  · skip
    refine jx_iload_n E 0 dX5_found_9 rfl ?_
    refine jx_bipush E dX5_found_10 ?_
    refine jx_icmp_ge (tgt := 25) E dX5_found_12 (by decide) (fun c2 => ?_) (fun c2 => ?_)
    · skip
      refine jx_iload_n E 2 dX5_found_25 rfl ?_
      exact jx_iret E hr dX5_found_26 (by first | rfl | omega) (by first | rfl | (exfalso; omega))
    · skip
      refine jx_aload_n E 1 dX5_found_15 rfl ?_
      refine jx_get E f_X5 7 (v := .ref (a 49)) wx_obj (by decide) wf_X5_49 rfl dX5_found_16 ?_
      refine jx_iload_n E 0 dX5_found_19 rfl ?_
      refine jx_dup2 E dX5_found_20 ?_
      refine jx_iald E (v := (x 4) ((-1000000001) - f)) wx_taly (row0_at (by omega) (by omega)) (by omega) (by omega) (by decide) dX5_found_21 ?_
      refine jx_iconst E dX5_found_22 ?_
      refine jx_iadd E dX5_found_23 ?_
      refine jx_iast E wx_taly (wp_taly (by omega) (by omega)) (by omega) (by omega) (by decide) dX5_found_24 ?_
      refine jx_iload_n E 2 dX5_found_25 rfl ?_
      exact jx_iret E hr dX5_found_26 (by first | rfl | omega) (by first | rfl | (exfalso; omega))
set_option maxHeartbeats 4000000 in
theorem c_X5_isKind (l : Launch) (G : GT) (ws : va_W) {k : Int} (h1 : inR k) : CtI l G yX5_isKind cX5_isKind 1 (some .boolean) 1 [vI k] ws (if vKind k then 1 else 0) ws := by
  unfold inR at h1
  refine CtI.of (by decide) (Nat.le_of_ble_eq_true rfl) ?_
  intro p e s m args below meth c A E hr
  refine jx_lv (lv' := [(0, vI k)]) [0] rfl ?_
  refine jx_iload_n E 0 dX5_isKind_0 rfl ?_
  refine jx_if_lt (tgt := 14) E dX5_isKind_1 (by decide) (fun c1 => ?_) (fun c1 => ?_)
  · skip
    refine jx_iconst E dX5_isKind_14 ?_
    exact jx_zret E hr dX5_isKind_15 (by omega) (by first | rfl | (congr 1; done)) (by first | exact Or.inl rfl | exact Or.inr rfl | omega)
  · skip
    refine jx_iload_n E 0 dX5_isKind_4 rfl ?_
    refine jx_bipush E dX5_isKind_5 ?_
    refine jx_icmp_ge (tgt := 14) E dX5_isKind_7 (by decide) (fun c2 => ?_) (fun c2 => ?_)
    · skip
      refine jx_iconst E dX5_isKind_14 ?_
      exact jx_zret E hr dX5_isKind_15 (by omega) (by first | rfl | (congr 1; done)) (by first | exact Or.inl rfl | exact Or.inr rfl | omega)
    · skip
      refine jx_iconst E dX5_isKind_10 ?_
      refine jx_goto (tgt := 15) E dX5_isKind_11 (by decide) ?_
      exact jx_zret E hr dX5_isKind_15 (by omega) (by first | rfl | (congr 1; done)) (by first | exact Or.inl rfl | exact Or.inr rfl | omega)
set_option maxHeartbeats 4000000 in
theorem c_X5_isTried (l : Launch) (G : GT) (ws : va_W) {n : Int} (h1 : inR n) : CtI l G yX5_isTried cX5_isTried 1 (some .boolean) 1 [vI n] ws (if v100 n then 1 else 0) ws := by
  unfold inR at h1
  refine CtI.of (by decide) (Nat.le_of_ble_eq_true rfl) ?_
  intro p e s m args below meth c A E hr
  refine jx_lv (lv' := [(0, vI n)]) [0] rfl ?_
  refine jx_iload_n E 0 dX5_isTried_0 rfl ?_
  refine jx_iconst E dX5_isTried_1 ?_
  refine jx_icmp_lt (tgt := 15) E dX5_isTried_2 (by decide) (fun c1 => ?_) (fun c1 => ?_)
  · skip
    refine jx_iconst E dX5_isTried_15 ?_
    exact jx_zret E hr dX5_isTried_16 (by omega) (by first | rfl | (congr 1; done)) (by first | exact Or.inl rfl | exact Or.inr rfl | omega)
  · skip
    refine jx_iload_n E 0 dX5_isTried_5 rfl ?_
    refine jx_bipush E dX5_isTried_6 ?_
    refine jx_icmp_gt (tgt := 15) E dX5_isTried_8 (by decide) (fun c2 => ?_) (fun c2 => ?_)
    · skip
      refine jx_iconst E dX5_isTried_15 ?_
      exact jx_zret E hr dX5_isTried_16 (by omega) (by first | rfl | (congr 1; done)) (by first | exact Or.inl rfl | exact Or.inr rfl | omega)
    · skip
      refine jx_iconst E dX5_isTried_11 ?_
      refine jx_goto (tgt := 16) E dX5_isTried_12 (by decide) ?_
      exact jx_zret E hr dX5_isTried_16 (by omega) (by first | rfl | (congr 1; done)) (by first | exact Or.inl rfl | exact Or.inr rfl | omega)
set_option maxHeartbeats 4000000 in
theorem c_X5_isAhead (l : Launch) (G : GT) (ws : va_W) {n : Int} (h1 : inR n) : CtI l G yX5_isAhead cX5_isAhead 1 (some .boolean) 1 [vI n] ws (if v400 n then 1 else 0) ws := by
  unfold inR at h1
  refine CtI.of (by decide) (Nat.le_of_ble_eq_true rfl) ?_
  intro p e s m args below meth c A E hr
  refine jx_lv (lv' := [(0, vI n)]) [0] rfl ?_
  refine jx_iload_n E 0 dX5_isAhead_0 rfl ?_
  refine jx_if_lt (tgt := 15) E dX5_isAhead_1 (by decide) (fun c1 => ?_) (fun c1 => ?_)
  · skip
    refine jx_iconst E dX5_isAhead_15 ?_
    exact jx_zret E hr dX5_isAhead_16 (by omega) (by first | rfl | (congr 1; done)) (by first | exact Or.inl rfl | exact Or.inr rfl | omega)
  · skip
    refine jx_iload_n E 0 dX5_isAhead_4 rfl ?_
    refine jx_sipush E dX5_isAhead_5 ?_
    refine jx_icmp_gt (tgt := 15) E dX5_isAhead_8 (by decide) (fun c2 => ?_) (fun c2 => ?_)
    · skip
      refine jx_iconst E dX5_isAhead_15 ?_
      exact jx_zret E hr dX5_isAhead_16 (by omega) (by first | rfl | (congr 1; done)) (by first | exact Or.inl rfl | exact Or.inr rfl | omega)
    · skip
      refine jx_iconst E dX5_isAhead_11 ?_
      refine jx_goto (tgt := 16) E dX5_isAhead_12 (by decide) ?_
      exact jx_zret E hr dX5_isAhead_16 (by omega) (by first | rfl | (congr 1; done)) (by first | exact Or.inl rfl | exact Or.inr rfl | omega)
set_option maxHeartbeats 4000000 in
theorem c_X5_isSheet (l : Launch) (G : GT) (ws : va_W) {n : Int} (h1 : inR n) : CtI l G yX5_isSheet cX5_isSheet 1 (some .boolean) 1 [vI n] ws (if vSheet n then 1 else 0) ws := by
  unfold inR at h1
  refine CtI.of (by decide) (Nat.le_of_ble_eq_true rfl) ?_
  intro p e s m args below meth c A E hr
  refine jx_lv (lv' := [(0, vI n)]) [0] rfl ?_
  refine jx_iload_n E 0 dX5_isSheet_0 rfl ?_
  refine jx_if_lt (tgt := 13) E dX5_isSheet_1 (by decide) (fun c1 => ?_) (fun c1 => ?_)
  · skip
    refine jx_iconst E dX5_isSheet_13 ?_
    exact jx_zret E hr dX5_isSheet_14 (by omega) (by first | rfl | (congr 1; done)) (by first | exact Or.inl rfl | exact Or.inr rfl | omega)
  · skip
    refine jx_iload_n E 0 dX5_isSheet_4 rfl ?_
    refine jx_iconst E dX5_isSheet_5 ?_
    refine jx_icmp_ge (tgt := 13) E dX5_isSheet_6 (by decide) (fun c2 => ?_) (fun c2 => ?_)
    · skip
      refine jx_iconst E dX5_isSheet_13 ?_
      exact jx_zret E hr dX5_isSheet_14 (by omega) (by first | rfl | (congr 1; done)) (by first | exact Or.inl rfl | exact Or.inr rfl | omega)
    · skip
      refine jx_iconst E dX5_isSheet_9 ?_
      refine jx_goto (tgt := 14) E dX5_isSheet_10 (by decide) ?_
      exact jx_zret E hr dX5_isSheet_14 (by omega) (by first | rfl | (congr 1; done)) (by first | exact Or.inl rfl | exact Or.inr rfl | omega)
set_option maxHeartbeats 4000000 in
theorem c_X5_maySet (l : Launch) (G : GT) (ws : va_W) {w v : Int} (h1 : inR w) (h2 : inR v) : CtI l G yX5_maySet cX5_maySet 2 (some .boolean) 1 [vI w, vI v] ws (if 1 ≤ w ∧ w ≤ 4 ∧ (if w = 1 then 1 else 0) ≤ v ∧ v ≤ (if w = 1 then 40 else if w = 2 then 1 else if w = 3 then 99 else 9999) then 1 else 0) ws := by
  unfold inR at h1 h2
  refine CtI.of (by decide) (Nat.le_of_ble_eq_true rfl) ?_
  intro p e s m args below meth c A E hr
  refine jx_lv (lv' := [(0, vI w), (1, vI v)]) [0, 1] rfl ?_
  refine jx_iload_n E 0 dX5_maySet_0 rfl ?_
  rcases (show w = 1 ∨ w = 2 ∨ w = 3 ∨ w = 4 ∨ (w < 1 ∨ 4 < w) by omega) with c1 | c1 | c1 | c1 | c1
  · skip
    refine jx_tabIn (tgt := 32) (off := 31) E 1 dX5_maySet_1 c1 (by unfold inR; decide) (by rfl) (by decide) ?_
    refine jx_iload_n E 1 dX5_maySet_32 rfl ?_
    refine jx_iconst E dX5_maySet_33 ?_
    refine jx_icmp_lt (tgt := 47) E dX5_maySet_34 (by decide) (fun c2 => ?_) (fun c2 => ?_)
    · skip
      refine jx_iconst E dX5_maySet_47 ?_
      exact jx_zret E hr dX5_maySet_48 (by omega) (by first | rfl | (congr 1; done)) (by first | exact Or.inl rfl | exact Or.inr rfl | omega)
    · skip
      refine jx_iload_n E 1 dX5_maySet_37 rfl ?_
      refine jx_bipush E dX5_maySet_38 ?_
      refine jx_icmp_gt (tgt := 47) E dX5_maySet_40 (by decide) (fun c3 => ?_) (fun c3 => ?_)
      · skip
        refine jx_iconst E dX5_maySet_47 ?_
        exact jx_zret E hr dX5_maySet_48 (by omega) (by first | rfl | (congr 1; done)) (by first | exact Or.inl rfl | exact Or.inr rfl | omega)
      · skip
        refine jx_iconst E dX5_maySet_43 ?_
        refine jx_goto (tgt := 48) E dX5_maySet_44 (by decide) ?_
        exact jx_zret E hr dX5_maySet_48 (by omega) (by first | rfl | (congr 1; done)) (by first | exact Or.inl rfl | exact Or.inr rfl | omega)
  · skip
    refine jx_tabIn (tgt := 49) (off := 48) E 2 dX5_maySet_1 c1 (by unfold inR; decide) (by rfl) (by decide) ?_
    refine jx_iload_n E 1 dX5_maySet_49 rfl ?_
    refine jx_if_lt (tgt := 62) E dX5_maySet_50 (by decide) (fun c4 => ?_) (fun c4 => ?_)
    · skip
      refine jx_iconst E dX5_maySet_62 ?_
      exact jx_zret E hr dX5_maySet_63 (by omega) (by first | rfl | (congr 1; done)) (by first | exact Or.inl rfl | exact Or.inr rfl | omega)
    · skip
      refine jx_iload_n E 1 dX5_maySet_53 rfl ?_
      refine jx_iconst E dX5_maySet_54 ?_
      refine jx_icmp_gt (tgt := 62) E dX5_maySet_55 (by decide) (fun c5 => ?_) (fun c5 => ?_)
      · skip
        refine jx_iconst E dX5_maySet_62 ?_
        exact jx_zret E hr dX5_maySet_63 (by omega) (by first | rfl | (congr 1; done)) (by first | exact Or.inl rfl | exact Or.inr rfl | omega)
      · skip
        refine jx_iconst E dX5_maySet_58 ?_
        refine jx_goto (tgt := 63) E dX5_maySet_59 (by decide) ?_
        exact jx_zret E hr dX5_maySet_63 (by omega) (by first | rfl | (congr 1; done)) (by first | exact Or.inl rfl | exact Or.inr rfl | omega)
  · skip
    refine jx_tabIn (tgt := 64) (off := 63) E 3 dX5_maySet_1 c1 (by unfold inR; decide) (by rfl) (by decide) ?_
    refine jx_iload_n E 1 dX5_maySet_64 rfl ?_
    refine jx_if_lt (tgt := 78) E dX5_maySet_65 (by decide) (fun c6 => ?_) (fun c6 => ?_)
    · skip
      refine jx_iconst E dX5_maySet_78 ?_
      exact jx_zret E hr dX5_maySet_79 (by omega) (by first | rfl | (congr 1; done)) (by first | exact Or.inl rfl | exact Or.inr rfl | omega)
    · skip
      refine jx_iload_n E 1 dX5_maySet_68 rfl ?_
      refine jx_bipush E dX5_maySet_69 ?_
      refine jx_icmp_gt (tgt := 78) E dX5_maySet_71 (by decide) (fun c7 => ?_) (fun c7 => ?_)
      · skip
        refine jx_iconst E dX5_maySet_78 ?_
        exact jx_zret E hr dX5_maySet_79 (by omega) (by first | rfl | (congr 1; done)) (by first | exact Or.inl rfl | exact Or.inr rfl | omega)
      · skip
        refine jx_iconst E dX5_maySet_74 ?_
        refine jx_goto (tgt := 79) E dX5_maySet_75 (by decide) ?_
        exact jx_zret E hr dX5_maySet_79 (by omega) (by first | rfl | (congr 1; done)) (by first | exact Or.inl rfl | exact Or.inr rfl | omega)
  · skip
    refine jx_tabIn (tgt := 80) (off := 79) E 4 dX5_maySet_1 c1 (by unfold inR; decide) (by rfl) (by decide) ?_
    refine jx_iload_n E 1 dX5_maySet_80 rfl ?_
    refine jx_if_lt (tgt := 95) E dX5_maySet_81 (by decide) (fun c8 => ?_) (fun c8 => ?_)
    · skip
      refine jx_iconst E dX5_maySet_95 ?_
      exact jx_zret E hr dX5_maySet_96 (by omega) (by first | rfl | (congr 1; done)) (by first | exact Or.inl rfl | exact Or.inr rfl | omega)
    · skip
      refine jx_iload_n E 1 dX5_maySet_84 rfl ?_
      refine jx_sipush E dX5_maySet_85 ?_
      refine jx_icmp_gt (tgt := 95) E dX5_maySet_88 (by decide) (fun c9 => ?_) (fun c9 => ?_)
      · skip
        refine jx_iconst E dX5_maySet_95 ?_
        exact jx_zret E hr dX5_maySet_96 (by omega) (by first | rfl | (congr 1; done)) (by first | exact Or.inl rfl | exact Or.inr rfl | omega)
      · skip
        refine jx_iconst E dX5_maySet_91 ?_
        refine jx_goto (tgt := 96) E dX5_maySet_92 (by decide) ?_
        exact jx_zret E hr dX5_maySet_96 (by omega) (by first | rfl | (congr 1; done)) (by first | exact Or.inl rfl | exact Or.inr rfl | omega)
  · skip
    refine jx_tabOut (tgt := 97) E dX5_maySet_1 c1 (by decide) ?_
    refine jx_iconst E dX5_maySet_97 ?_
    exact jx_zret E hr dX5_maySet_98 (by omega) (by first | rfl | (congr 1; done)) (by first | exact Or.inl rfl | exact Or.inr rfl | omega)
set_option maxHeartbeats 4000000 in
theorem c_X5_water (l : Launch) (G : GT) (a : Nat → Nat) (x : MS) {w v : Int} (h1 : VT 99999 (x 0)) (h2 : inR w) (h3 : inR v) : CtI l G yX5_water cX5_water 4 (some .int) 2 [.ref (a 0), vI w, vI v] (wsX G a x) (waterR (x 0) w v) (wsX G a (endX (if vWater w v then setc x 0 (updI (x 0) (1 + w) v) else x) (waterR (x 0) w v))) := by
  obtain ⟨v0, v1, v2, v3, v4, v5, v6, v7⟩ := id h1
  unfold inR at h2 h3
  have hb : (0 ≤ w ∧ w ≤ 2) → 0 ≤ x 0 (1 + w) := fun q => by rcases (show w = 0 ∨ w = 1 ∨ w = 2 by omega) with e | e | e <;> subst e <;> first | exact v1.1 | exact v2.1 | exact v3.1
  refine CtI.of (by decide) (Nat.le_of_ble_eq_true rfl) ?_
  intro p e s m args below meth c A E hr
  refine jx_lv (lv' := [(0, .ref (a 0)), (1, vI w), (2, vI v)]) [0, 1, 2] rfl ?_
  refine jx_iload_n E 1 dX5_water_0 rfl ?_
  refine jx_if_lt (tgt := 20) E dX5_water_1 (by decide) (fun c1 => ?_) (fun c1 => ?_)
  · skip
    refine jx_aload_n E 0 dX5_water_20 rfl ?_
    refine jx_ldc E wc_X5_53 dX5_water_21 ?_
    refine jx_callVi E [vI (-1000000001)] [] (c_X5_found l G a x (f := (-1000000001)) (by omega)) mb_X5_found mv_X5_found wl_X5_54 f_X5 wx_obj dX5_water_23 ?_
    exact jx_iret E hr dX5_water_26 (by have hV : ¬ (vWater w v) := (by omega); simp only [waterR, if_neg hV]) (by have hV : ¬ (vWater w v) := (by omega); simp only [waterR, if_neg hV]; rw [endX_f (by decide)])
  · skip
    refine jx_iload_n E 1 dX5_water_4 rfl ?_
    refine jx_iconst E dX5_water_5 ?_
    refine jx_icmp_gt (tgt := 20) E dX5_water_6 (by decide) (fun c2 => ?_) (fun c2 => ?_)
    · skip
      refine jx_aload_n E 0 dX5_water_20 rfl ?_
      refine jx_ldc E wc_X5_53 dX5_water_21 ?_
      refine jx_callVi E [vI (-1000000001)] [] (c_X5_found l G a x (f := (-1000000001)) (by omega)) mb_X5_found mv_X5_found wl_X5_54 f_X5 wx_obj dX5_water_23 ?_
      exact jx_iret E hr dX5_water_26 (by have hV : ¬ (vWater w v) := (by omega); simp only [waterR, if_neg hV]) (by have hV : ¬ (vWater w v) := (by omega); simp only [waterR, if_neg hV]; rw [endX_f (by decide)])
    · skip
      refine jx_iload_n E 2 dX5_water_9 rfl ?_
      refine jx_if_lt (tgt := 20) E dX5_water_10 (by decide) (fun c3 => ?_) (fun c3 => ?_)
      · skip
        refine jx_aload_n E 0 dX5_water_20 rfl ?_
        refine jx_ldc E wc_X5_53 dX5_water_21 ?_
        refine jx_callVi E [vI (-1000000001)] [] (c_X5_found l G a x (f := (-1000000001)) (by omega)) mb_X5_found mv_X5_found wl_X5_54 f_X5 wx_obj dX5_water_23 ?_
        exact jx_iret E hr dX5_water_26 (by have hV : ¬ (vWater w v) := (by omega); simp only [waterR, if_neg hV]) (by have hV : ¬ (vWater w v) := (by omega); simp only [waterR, if_neg hV]; rw [endX_f (by decide)])
      · skip
        refine jx_iload_n E 2 dX5_water_13 rfl ?_
        refine jx_sipush E dX5_water_14 ?_
        refine jx_icmp_le (tgt := 27) E dX5_water_17 (by decide) (fun c4 => ?_) (fun c4 => ?_)
        · skip
          refine jx_iload_n E 1 dX5_water_27 rfl ?_
          refine jx_if_ne (tgt := 50) E dX5_water_28 (by decide) (fun c5 => ?_) (fun c5 => ?_)
          · skip
            refine jx_iload_n E 1 dX5_water_50 rfl ?_
            refine jx_iconst E dX5_water_51 ?_
            refine jx_icmp_ne (tgt := 74) E dX5_water_52 (by decide) (fun c6 => ?_) (fun c6 => ?_)
            · skip
              refine jx_aload_n E 0 dX5_water_74 rfl ?_
              refine jx_get E f_X5 0 (v := .ref (a 1)) wx_obj (by decide) wf_X5_10 rfl dX5_water_75 ?_
              refine jx_get E f_X4 3 (v := vI ((x 0) 3)) (wx_town (j := 0) (by decide)) (by decide) wf_X5_65 rfl dX5_water_78 ?_
              refine jx_istore_n E dX5_water_81 (by decide) [(3, vI ((x 0) 3)), (0, .ref (a 0)), (1, vI w), (2, vI v)] rfl ?_
              refine jx_aload_n E 1 dX5_water_82 rfl ?_
              refine jx_get E f_X5 0 (v := .ref (a 1)) wx_obj (by decide) wf_X5_10 rfl dX5_water_83 ?_
              refine jx_iload_n E 3 dX5_water_86 rfl ?_
              refine jx_put E f_X4 3 (wx_town (j := 0) (by decide)) (by decide) wf_X5_65 rfl rfl rfl (Nat.le_of_ble_eq_true rfl) (wp_town3 (j := 0) (by decide)) dX5_water_87 ?_
              refine jx_iload_n E 0 dX5_water_90 rfl ?_
              exact jx_iret E hr dX5_water_91 (by have hV : vWater w v := (by omega); simp only [waterR, if_pos hV]; rcases (show w = 0 ∨ w = 1 ∨ w = 2 by omega) with e | e | e <;> subst e <;> first | rfl | (exfalso; omega)) (by have hV : vWater w v := (by omega); simp only [waterR, if_pos hV]; rw [endX_n (by omega)]; rcases (show w = 0 ∨ w = 1 ∨ w = 2 by omega) with e | e | e <;> subst e <;> first | rfl | (exfalso; omega))
            · skip
              refine jx_aload_n E 0 dX5_water_55 rfl ?_
              refine jx_get E f_X5 0 (v := .ref (a 1)) wx_obj (by decide) wf_X5_10 rfl dX5_water_56 ?_
              refine jx_get E f_X4 2 (v := vI ((x 0) 2)) (wx_town (j := 0) (by decide)) (by decide) wf_X5_62 rfl dX5_water_59 ?_
              refine jx_istore_n E dX5_water_62 (by decide) [(3, vI ((x 0) 2)), (0, .ref (a 0)), (1, vI w), (2, vI v)] rfl ?_
              refine jx_aload_n E 1 dX5_water_63 rfl ?_
              refine jx_get E f_X5 0 (v := .ref (a 1)) wx_obj (by decide) wf_X5_10 rfl dX5_water_64 ?_
              refine jx_iload_n E 3 dX5_water_67 rfl ?_
              refine jx_put E f_X4 2 (wx_town (j := 0) (by decide)) (by decide) wf_X5_62 rfl rfl rfl (Nat.le_of_ble_eq_true rfl) (wp_town2 (j := 0) (by decide)) dX5_water_68 ?_
              refine jx_goto (tgt := 90) E dX5_water_71 (by decide) ?_
              refine jx_iload_n E 0 dX5_water_90 rfl ?_
              exact jx_iret E hr dX5_water_91 (by have hV : vWater w v := (by omega); simp only [waterR, if_pos hV]; rcases (show w = 0 ∨ w = 1 ∨ w = 2 by omega) with e | e | e <;> subst e <;> first | rfl | (exfalso; omega)) (by have hV : vWater w v := (by omega); simp only [waterR, if_pos hV]; rw [endX_n (by omega)]; rcases (show w = 0 ∨ w = 1 ∨ w = 2 by omega) with e | e | e <;> subst e <;> first | rfl | (exfalso; omega))
          · skip
            refine jx_aload_n E 0 dX5_water_31 rfl ?_
            refine jx_get E f_X5 0 (v := .ref (a 1)) wx_obj (by decide) wf_X5_10 rfl dX5_water_32 ?_
            refine jx_get E f_X4 1 (v := vI ((x 0) 1)) (wx_town (j := 0) (by decide)) (by decide) wf_X5_58 rfl dX5_water_35 ?_
            refine jx_istore_n E dX5_water_38 (by decide) [(3, vI ((x 0) 1)), (0, .ref (a 0)), (1, vI w), (2, vI v)] rfl ?_
            refine jx_aload_n E 1 dX5_water_39 rfl ?_
            refine jx_get E f_X5 0 (v := .ref (a 1)) wx_obj (by decide) wf_X5_10 rfl dX5_water_40 ?_
            refine jx_iload_n E 3 dX5_water_43 rfl ?_
            refine jx_put E f_X4 1 (wx_town (j := 0) (by decide)) (by decide) wf_X5_58 rfl rfl rfl (Nat.le_of_ble_eq_true rfl) (wp_town1 (j := 0) (by decide)) dX5_water_44 ?_
            refine jx_goto (tgt := 90) E dX5_water_47 (by decide) ?_
            refine jx_iload_n E 0 dX5_water_90 rfl ?_
            exact jx_iret E hr dX5_water_91 (by have hV : vWater w v := (by omega); simp only [waterR, if_pos hV]; rcases (show w = 0 ∨ w = 1 ∨ w = 2 by omega) with e | e | e <;> subst e <;> first | rfl | (exfalso; omega)) (by have hV : vWater w v := (by omega); simp only [waterR, if_pos hV]; rw [endX_n (by omega)]; rcases (show w = 0 ∨ w = 1 ∨ w = 2 by omega) with e | e | e <;> subst e <;> first | rfl | (exfalso; omega))
        · skip
          refine jx_aload_n E 0 dX5_water_20 rfl ?_
          refine jx_ldc E wc_X5_53 dX5_water_21 ?_
          refine jx_callVi E [vI (-1000000001)] [] (c_X5_found l G a x (f := (-1000000001)) (by omega)) mb_X5_found mv_X5_found wl_X5_54 f_X5 wx_obj dX5_water_23 ?_
          exact jx_iret E hr dX5_water_26 (by have hV : ¬ (vWater w v) := (by omega); simp only [waterR, if_neg hV]) (by have hV : ¬ (vWater w v) := (by omega); simp only [waterR, if_neg hV]; rw [endX_f (by decide)])
set_option maxHeartbeats 4000000 in
theorem c_X5_week (l : Launch) (G : GT) (a : Nat → Nat) (x : MS) {k w v : Int} (h1 : VT 99999 (x 0)) (h2 : inR k) (h3 : inR w) (h4 : inR v) : CtI l G yX5_week cX5_week 6 (some .int) 2 [.ref (a 0), vI k, vI w, vI v] (wsX G a x) (weekR (x 0) k w v) (wsX G a (endX (if vWeek k w v then setc x 0 (updI (x 0) (5 + 8 * w + k) v) else x) (weekR (x 0) k w v))) := by
  obtain ⟨v0, v1, v2, v3, v4, v5, v6, v7⟩ := id h1
  unfold inR at h2 h3 h4
  have hb : 0 ≤ k ∧ k ≤ 7 → (0 ≤ w ∧ w ≤ 1) → 0 ≤ x 0 (5 + 8 * w + k) := fun q r => by rcases (show w = 0 ∨ w = 1 by omega) with e | e <;> subst e <;> first | exact (v5 k (by omega) (by omega)).1 | exact (v6 k (by omega) (by omega)).1
  refine CtI.of (by decide) (Nat.le_of_ble_eq_true rfl) ?_
  intro p e s m args below meth c A E hr
  refine jx_lv (lv' := [(0, .ref (a 0)), (1, vI k), (2, vI w), (3, vI v)]) [0, 1, 2, 3] rfl ?_
  refine jx_iload_n E 1 dX5_week_0 rfl ?_
  refine jx_if_lt (tgt := 19) E dX5_week_1 (by decide) (fun c1 => ?_) (fun c1 => ?_)
  · skip
    refine jx_aload_n E 0 dX5_week_19 rfl ?_
    refine jx_ldc E wc_X5_53 dX5_week_20 ?_
    refine jx_callVi E [vI (-1000000001)] [] (c_X5_found l G a x (f := (-1000000001)) (by omega)) mb_X5_found mv_X5_found wl_X5_54 f_X5 wx_obj dX5_week_22 ?_
    exact jx_iret E hr dX5_week_25 (by have hV : ¬ (vWeek k w v) := (by omega); simp only [weekR, if_neg hV]) (by have hV : ¬ (vWeek k w v) := (by omega); simp only [weekR, if_neg hV]; rw [endX_f (by decide)])
  · skip
    refine jx_iload_n E 1 dX5_week_4 rfl ?_
    refine jx_bipush E dX5_week_5 ?_
    refine jx_icmp_ge (tgt := 19) E dX5_week_7 (by decide) (fun c2 => ?_) (fun c2 => ?_)
    · skip
      refine jx_aload_n E 0 dX5_week_19 rfl ?_
      refine jx_ldc E wc_X5_53 dX5_week_20 ?_
      refine jx_callVi E [vI (-1000000001)] [] (c_X5_found l G a x (f := (-1000000001)) (by omega)) mb_X5_found mv_X5_found wl_X5_54 f_X5 wx_obj dX5_week_22 ?_
      exact jx_iret E hr dX5_week_25 (by have hV : ¬ (vWeek k w v) := (by omega); simp only [weekR, if_neg hV]) (by have hV : ¬ (vWeek k w v) := (by omega); simp only [weekR, if_neg hV]; rw [endX_f (by decide)])
    · skip
      refine jx_iload_n E 2 dX5_week_10 rfl ?_
      refine jx_if_lt (tgt := 19) E dX5_week_11 (by decide) (fun c3 => ?_) (fun c3 => ?_)
      · skip
        refine jx_aload_n E 0 dX5_week_19 rfl ?_
        refine jx_ldc E wc_X5_53 dX5_week_20 ?_
        refine jx_callVi E [vI (-1000000001)] [] (c_X5_found l G a x (f := (-1000000001)) (by omega)) mb_X5_found mv_X5_found wl_X5_54 f_X5 wx_obj dX5_week_22 ?_
        exact jx_iret E hr dX5_week_25 (by have hV : ¬ (vWeek k w v) := (by omega); simp only [weekR, if_neg hV]) (by have hV : ¬ (vWeek k w v) := (by omega); simp only [weekR, if_neg hV]; rw [endX_f (by decide)])
      · skip
        refine jx_iload_n E 2 dX5_week_14 rfl ?_
        refine jx_iconst E dX5_week_15 ?_
        refine jx_icmp_le (tgt := 26) E dX5_week_16 (by decide) (fun c4 => ?_) (fun c4 => ?_)
        · skip
          refine jx_iload_n E 3 dX5_week_26 rfl ?_
          refine jx_if_lt (tgt := 44) E dX5_week_27 (by decide) (fun c5 => ?_) (fun c5 => ?_)
          · skip
            refine jx_aload_n E 0 dX5_week_44 rfl ?_
            refine jx_ldc E wc_X5_53 dX5_week_45 ?_
            refine jx_callVi E [vI (-1000000001)] [] (c_X5_found l G a x (f := (-1000000001)) (by omega)) mb_X5_found mv_X5_found wl_X5_54 f_X5 wx_obj dX5_week_47 ?_
            exact jx_iret E hr dX5_week_50 (by have hV : ¬ (vWeek k w v) := (by omega); simp only [weekR, if_neg hV]) (by have hV : ¬ (vWeek k w v) := (by omega); simp only [weekR, if_neg hV]; rw [endX_f (by decide)])
          · skip
            refine jx_iload_n E 3 dX5_week_30 rfl ?_
            refine jx_iload_n E 2 dX5_week_31 rfl ?_
            refine jx_if_ne (tgt := 40) E dX5_week_32 (by decide) (fun c6 => ?_) (fun c6 => ?_)
            · skip
              refine jx_iconst E dX5_week_40 ?_
              refine jx_icmp_le (tgt := 51) E dX5_week_41 (by decide) (fun c7 => ?_) (fun c7 => ?_)
              · skip
                refine jx_iload_n E 2 dX5_week_51 rfl ?_
                refine jx_if_ne (tgt := 65) E dX5_week_52 (by decide) (fun c8 => ?_) (fun c8 => ?_)
                · skip
                  refine jx_aload_n E 0 dX5_week_65 rfl ?_
                  refine jx_get E f_X5 0 (v := .ref (a 1)) wx_obj (by decide) wf_X5_10 rfl dX5_week_66 ?_
                  refine jx_get E f_X4 5 (v := .ref (a 3)) (wx_town (j := 0) (by decide)) (by decide) wf_X5_71 rfl dX5_week_69 ?_
                  refine jx_astore E dX5_week_72 (by decide) [(4, .ref (a 3)), (0, .ref (a 0)), (1, vI k), (2, vI w), (3, vI v)] rfl ?_
                  refine jx_aload E 0 dX5_week_74 rfl ?_
                  refine jx_iload_n E 2 dX5_week_76 rfl ?_
                  refine jx_iald E (v := (x 0) (13 + k)) (wx_cold (j := 0) (by decide)) (rowI_at (by omega) (by omega)) (by omega) (by omega) (by decide) dX5_week_77 ?_
                  refine jx_istore E dX5_week_78 (by decide) [(5, vI ((x 0) (13 + k))), (4, .ref (a 3)), (0, .ref (a 0)), (1, vI k), (2, vI w), (3, vI v)] rfl ?_
                  refine jx_aload E 1 dX5_week_80 rfl ?_
                  refine jx_iload_n E 3 dX5_week_82 rfl ?_
                  refine jx_iload_n E 5 dX5_week_83 rfl ?_
                  refine jx_iast E (wx_cold (j := 0) (by decide)) (wp_cold (j := 0) (by decide) (by omega) (by omega)) (by omega) (by omega) (by decide) dX5_week_84 ?_
                  refine jx_iload E 0 dX5_week_85 rfl ?_
                  exact jx_iret E hr dX5_week_87 (by have hV : vWeek k w v := (by omega); simp only [weekR, if_pos hV]; rcases (show w = 0 ∨ w = 1 by omega) with e | e <;> subst e <;> first | (exfalso; omega) | (simp; done) | (show _ = _; congr 1; omega)) (by have hV : vWeek k w v := (by omega); simp only [weekR, if_pos hV]; rw [endX_n (by omega)]; rcases (show w = 0 ∨ w = 1 by omega) with e | e <;> subst e <;> first | (exfalso; omega) | (simp; done) | (show _ = _; congr 1; omega))
                · skip
                  refine jx_aload_n E 0 dX5_week_55 rfl ?_
                  refine jx_get E f_X5 0 (v := .ref (a 1)) wx_obj (by decide) wf_X5_10 rfl dX5_week_56 ?_
                  refine jx_get E f_X4 4 (v := .ref (a 2)) (wx_town (j := 0) (by decide)) (by decide) wf_X5_68 rfl dX5_week_59 ?_
                  refine jx_goto (tgt := 72) E dX5_week_62 (by decide) ?_
                  refine jx_astore E dX5_week_72 (by decide) [(4, .ref (a 2)), (0, .ref (a 0)), (1, vI k), (2, vI w), (3, vI v)] rfl ?_
                  refine jx_aload E 0 dX5_week_74 rfl ?_
                  refine jx_iload_n E 2 dX5_week_76 rfl ?_
                  refine jx_iald E (v := (x 0) (5 + k)) (wx_rain (j := 0) (by decide)) (rowI_at (by omega) (by omega)) (by omega) (by omega) (by decide) dX5_week_77 ?_
                  refine jx_istore E dX5_week_78 (by decide) [(5, vI ((x 0) (5 + k))), (4, .ref (a 2)), (0, .ref (a 0)), (1, vI k), (2, vI w), (3, vI v)] rfl ?_
                  refine jx_aload E 1 dX5_week_80 rfl ?_
                  refine jx_iload_n E 3 dX5_week_82 rfl ?_
                  refine jx_iload_n E 5 dX5_week_83 rfl ?_
                  refine jx_iast E (wx_rain (j := 0) (by decide)) (wp_rain (j := 0) (by decide) (by omega) (by omega)) (by omega) (by omega) (by decide) dX5_week_84 ?_
                  refine jx_iload E 0 dX5_week_85 rfl ?_
                  exact jx_iret E hr dX5_week_87 (by have hV : vWeek k w v := (by omega); simp only [weekR, if_pos hV]; rcases (show w = 0 ∨ w = 1 by omega) with e | e <;> subst e <;> first | (exfalso; omega) | (simp; done) | (show _ = _; congr 1; omega)) (by have hV : vWeek k w v := (by omega); simp only [weekR, if_pos hV]; rw [endX_n (by omega)]; rcases (show w = 0 ∨ w = 1 by omega) with e | e <;> subst e <;> first | (exfalso; omega) | (simp; done) | (show _ = _; congr 1; omega))
              · skip
                refine jx_aload_n E 0 dX5_week_44 rfl ?_
                refine jx_ldc E wc_X5_53 dX5_week_45 ?_
                refine jx_callVi E [vI (-1000000001)] [] (c_X5_found l G a x (f := (-1000000001)) (by omega)) mb_X5_found mv_X5_found wl_X5_54 f_X5 wx_obj dX5_week_47 ?_
                exact jx_iret E hr dX5_week_50 (by have hV : ¬ (vWeek k w v) := (by omega); simp only [weekR, if_neg hV]) (by have hV : ¬ (vWeek k w v) := (by omega); simp only [weekR, if_neg hV]; rw [endX_f (by decide)])
            · skip
              refine jx_bipush E dX5_week_35 ?_
              refine jx_goto (tgt := 41) E dX5_week_37 (by decide) ?_
              refine jx_icmp_le (tgt := 51) E dX5_week_41 (by decide) (fun c9 => ?_) (fun c9 => ?_)
              · skip
                refine jx_iload_n E 2 dX5_week_51 rfl ?_
                refine jx_if_ne (tgt := 65) E dX5_week_52 (by decide) (fun c10 => ?_) (fun c10 => ?_)
                · skip
                  refine jx_aload_n E 0 dX5_week_65 rfl ?_
                  refine jx_get E f_X5 0 (v := .ref (a 1)) wx_obj (by decide) wf_X5_10 rfl dX5_week_66 ?_
                  refine jx_get E f_X4 5 (v := .ref (a 3)) (wx_town (j := 0) (by decide)) (by decide) wf_X5_71 rfl dX5_week_69 ?_
                  refine jx_astore E dX5_week_72 (by decide) [(4, .ref (a 3)), (0, .ref (a 0)), (1, vI k), (2, vI w), (3, vI v)] rfl ?_
                  refine jx_aload E 0 dX5_week_74 rfl ?_
                  refine jx_iload_n E 2 dX5_week_76 rfl ?_
                  refine jx_iald E (v := (x 0) (13 + k)) (wx_cold (j := 0) (by decide)) (rowI_at (by omega) (by omega)) (by omega) (by omega) (by decide) dX5_week_77 ?_
                  refine jx_istore E dX5_week_78 (by decide) [(5, vI ((x 0) (13 + k))), (4, .ref (a 3)), (0, .ref (a 0)), (1, vI k), (2, vI w), (3, vI v)] rfl ?_
                  refine jx_aload E 1 dX5_week_80 rfl ?_
                  refine jx_iload_n E 3 dX5_week_82 rfl ?_
                  refine jx_iload_n E 5 dX5_week_83 rfl ?_
                  refine jx_iast E (wx_cold (j := 0) (by decide)) (wp_cold (j := 0) (by decide) (by omega) (by omega)) (by omega) (by omega) (by decide) dX5_week_84 ?_
                  refine jx_iload E 0 dX5_week_85 rfl ?_
                  exact jx_iret E hr dX5_week_87 (by have hV : vWeek k w v := (by omega); simp only [weekR, if_pos hV]; rcases (show w = 0 ∨ w = 1 by omega) with e | e <;> subst e <;> first | (exfalso; omega) | (simp; done) | (show _ = _; congr 1; omega)) (by have hV : vWeek k w v := (by omega); simp only [weekR, if_pos hV]; rw [endX_n (by omega)]; rcases (show w = 0 ∨ w = 1 by omega) with e | e <;> subst e <;> first | (exfalso; omega) | (simp; done) | (show _ = _; congr 1; omega))
                · skip
                  refine jx_aload_n E 0 dX5_week_55 rfl ?_
                  refine jx_get E f_X5 0 (v := .ref (a 1)) wx_obj (by decide) wf_X5_10 rfl dX5_week_56 ?_
                  refine jx_get E f_X4 4 (v := .ref (a 2)) (wx_town (j := 0) (by decide)) (by decide) wf_X5_68 rfl dX5_week_59 ?_
                  refine jx_goto (tgt := 72) E dX5_week_62 (by decide) ?_
                  refine jx_astore E dX5_week_72 (by decide) [(4, .ref (a 2)), (0, .ref (a 0)), (1, vI k), (2, vI w), (3, vI v)] rfl ?_
                  refine jx_aload E 0 dX5_week_74 rfl ?_
                  refine jx_iload_n E 2 dX5_week_76 rfl ?_
                  refine jx_iald E (v := (x 0) (5 + k)) (wx_rain (j := 0) (by decide)) (rowI_at (by omega) (by omega)) (by omega) (by omega) (by decide) dX5_week_77 ?_
                  refine jx_istore E dX5_week_78 (by decide) [(5, vI ((x 0) (5 + k))), (4, .ref (a 2)), (0, .ref (a 0)), (1, vI k), (2, vI w), (3, vI v)] rfl ?_
                  refine jx_aload E 1 dX5_week_80 rfl ?_
                  refine jx_iload_n E 3 dX5_week_82 rfl ?_
                  refine jx_iload_n E 5 dX5_week_83 rfl ?_
                  refine jx_iast E (wx_rain (j := 0) (by decide)) (wp_rain (j := 0) (by decide) (by omega) (by omega)) (by omega) (by omega) (by decide) dX5_week_84 ?_
                  refine jx_iload E 0 dX5_week_85 rfl ?_
                  exact jx_iret E hr dX5_week_87 (by have hV : vWeek k w v := (by omega); simp only [weekR, if_pos hV]; rcases (show w = 0 ∨ w = 1 by omega) with e | e <;> subst e <;> first | (exfalso; omega) | (simp; done) | (show _ = _; congr 1; omega)) (by have hV : vWeek k w v := (by omega); simp only [weekR, if_pos hV]; rw [endX_n (by omega)]; rcases (show w = 0 ∨ w = 1 by omega) with e | e <;> subst e <;> first | (exfalso; omega) | (simp; done) | (show _ = _; congr 1; omega))
              · skip
                refine jx_aload_n E 0 dX5_week_44 rfl ?_
                refine jx_ldc E wc_X5_53 dX5_week_45 ?_
                refine jx_callVi E [vI (-1000000001)] [] (c_X5_found l G a x (f := (-1000000001)) (by omega)) mb_X5_found mv_X5_found wl_X5_54 f_X5 wx_obj dX5_week_47 ?_
                exact jx_iret E hr dX5_week_50 (by have hV : ¬ (vWeek k w v) := (by omega); simp only [weekR, if_neg hV]) (by have hV : ¬ (vWeek k w v) := (by omega); simp only [weekR, if_neg hV]; rw [endX_f (by decide)])
        · skip
          refine jx_aload_n E 0 dX5_week_19 rfl ?_
          refine jx_ldc E wc_X5_53 dX5_week_20 ?_
          refine jx_callVi E [vI (-1000000001)] [] (c_X5_found l G a x (f := (-1000000001)) (by omega)) mb_X5_found mv_X5_found wl_X5_54 f_X5 wx_obj dX5_week_22 ?_
          exact jx_iret E hr dX5_week_25 (by have hV : ¬ (vWeek k w v) := (by omega); simp only [weekR, if_neg hV]) (by have hV : ¬ (vWeek k w v) := (by omega); simp only [weekR, if_neg hV]; rw [endX_f (by decide)])
set_option maxHeartbeats 4000000 in
theorem c_X5_now (l : Launch) (G : GT) (a : Nat → Nat) (x : MS) {w : Int} (h1 : VT 99999 (x 0)) (h2 : inR w) : CtI l G yX5_now cX5_now 2 (some .int) 5 [.ref (a 0), vI w] (wsX G a x) (nowR (x 0) w) (wsX G a (endX x (nowR (x 0) w))) := by
  obtain ⟨v0, v1, v2, v3, v4, v5, v6, v7⟩ := id h1
  unfold inR at h2
  have hw := week_in h1
  have hn := noise_in h1
  have h5 := v5 _ hw.1 hw.2
  have h6 := v6 _ hw.1 hw.2
  have ho := offsN_in (t := x 0) (x 0 4).toNat (fun i a b => (v7 i a (by omega)).2.2.1)
  have hu := sum_in (f := fun i => usesP (x 0) i (coldP (x 0))) (M := 80) (x 0 4).toNat (fun i a b => uses_in (v7 i a (by omega)))
  have hvv : VV (x 0) := VT_up h1 (by omega)
  refine CtI.of (by decide) (Nat.le_of_ble_eq_true rfl) ?_
  intro p e s m args below meth c A E hr
  refine jx_lv (lv' := [(0, .ref (a 0)), (1, vI w)]) [0, 1] rfl ?_
  refine jx_iload_n E 1 dX5_now_0 rfl ?_
  rcases (show w = 0 ∨ w = 1 ∨ w = 2 ∨ w = 3 ∨ w = 4 ∨ w = 5 ∨ w = 6 ∨ w = 7 ∨ w = 8 ∨ w = 9 ∨ (w < 0 ∨ 9 < w) by omega) with c1 | c1 | c1 | c1 | c1 | c1 | c1 | c1 | c1 | c1 | c1
  · skip
    refine jx_tabIn (tgt := 56) (off := 55) E 0 dX5_now_1 c1 (by unfold inR; decide) (by rfl) (by decide) ?_
    refine jx_aload_n E 0 dX5_now_56 rfl ?_
    refine jx_get E f_X5 0 (v := .ref (a 1)) wx_obj (by decide) wf_X5_10 rfl dX5_now_57 ?_
    refine jx_get E f_X4 0 (v := vI ((x 0) 0)) (wx_town (j := 0) (by decide)) (by decide) wf_X5_74 rfl dX5_now_60 ?_
    exact jx_iret E hr dX5_now_63 (by rcases (show w = 0 ∨ w = 1 ∨ w = 2 ∨ w = 3 ∨ w = 4 ∨ w = 5 ∨ w = 6 ∨ w = 7 ∨ w = 8 ∨ w = 9 by omega) with e | e | e | e | e | e | e | e | e | e <;> first | (exfalso; omega) | (subst e; rfl)) (by rw [endX_n (by rw [show nowR (x 0) w = (x 0) 0 from by rcases (show w = 0 ∨ w = 1 ∨ w = 2 ∨ w = 3 ∨ w = 4 ∨ w = 5 ∨ w = 6 ∨ w = 7 ∨ w = 8 ∨ w = 9 by omega) with e | e | e | e | e | e | e | e | e | e <;> first | (exfalso; omega) | (subst e; rfl)]; first | omega | (unfold allUseP; omega))])
  · skip
    refine jx_tabIn (tgt := 64) (off := 63) E 1 dX5_now_1 c1 (by unfold inR; decide) (by rfl) (by decide) ?_
    refine jx_aload_n E 0 dX5_now_64 rfl ?_
    refine jx_get E f_X5 0 (v := .ref (a 1)) wx_obj (by decide) wf_X5_10 rfl dX5_now_65 ?_
    refine jx_callVi E [] [] (c_X4_weekOfDay_0 l G a x  (by omega)) mb_X4_weekOfDay mv_X4_weekOfDay wl_X5_77 f_X4 (wx_town (j := 0) (by decide)) dX5_now_68 ?_
    exact jx_iret E hr dX5_now_71 (by rcases (show w = 0 ∨ w = 1 ∨ w = 2 ∨ w = 3 ∨ w = 4 ∨ w = 5 ∨ w = 6 ∨ w = 7 ∨ w = 8 ∨ w = 9 by omega) with e | e | e | e | e | e | e | e | e | e <;> first | (exfalso; omega) | (subst e; rfl)) (by rw [endX_n (by rw [show nowR (x 0) w = weekP (x 0) from by rcases (show w = 0 ∨ w = 1 ∨ w = 2 ∨ w = 3 ∨ w = 4 ∨ w = 5 ∨ w = 6 ∨ w = 7 ∨ w = 8 ∨ w = 9 by omega) with e | e | e | e | e | e | e | e | e | e <;> first | (exfalso; omega) | (subst e; rfl)]; first | omega | (unfold allUseP; omega))])
  · skip
    refine jx_tabIn (tgt := 72) (off := 71) E 2 dX5_now_1 c1 (by unfold inR; decide) (by rfl) (by decide) ?_
    refine jx_aload_n E 0 dX5_now_72 rfl ?_
    refine jx_get E f_X5 0 (v := .ref (a 1)) wx_obj (by decide) wf_X5_10 rfl dX5_now_73 ?_
    refine jx_get E f_X4 1 (v := vI ((x 0) 1)) (wx_town (j := 0) (by decide)) (by decide) wf_X5_58 rfl dX5_now_76 ?_
    exact jx_iret E hr dX5_now_79 (by rcases (show w = 0 ∨ w = 1 ∨ w = 2 ∨ w = 3 ∨ w = 4 ∨ w = 5 ∨ w = 6 ∨ w = 7 ∨ w = 8 ∨ w = 9 by omega) with e | e | e | e | e | e | e | e | e | e <;> first | (exfalso; omega) | (subst e; rfl)) (by rw [endX_n (by rw [show nowR (x 0) w = (x 0) 1 from by rcases (show w = 0 ∨ w = 1 ∨ w = 2 ∨ w = 3 ∨ w = 4 ∨ w = 5 ∨ w = 6 ∨ w = 7 ∨ w = 8 ∨ w = 9 by omega) with e | e | e | e | e | e | e | e | e | e <;> first | (exfalso; omega) | (subst e; rfl)]; first | omega | (unfold allUseP; omega))])
  · skip
    refine jx_tabIn (tgt := 80) (off := 79) E 3 dX5_now_1 c1 (by unfold inR; decide) (by rfl) (by decide) ?_
    refine jx_aload_n E 0 dX5_now_80 rfl ?_
    refine jx_get E f_X5 0 (v := .ref (a 1)) wx_obj (by decide) wf_X5_10 rfl dX5_now_81 ?_
    refine jx_get E f_X4 2 (v := vI ((x 0) 2)) (wx_town (j := 0) (by decide)) (by decide) wf_X5_62 rfl dX5_now_84 ?_
    exact jx_iret E hr dX5_now_87 (by rcases (show w = 0 ∨ w = 1 ∨ w = 2 ∨ w = 3 ∨ w = 4 ∨ w = 5 ∨ w = 6 ∨ w = 7 ∨ w = 8 ∨ w = 9 by omega) with e | e | e | e | e | e | e | e | e | e <;> first | (exfalso; omega) | (subst e; rfl)) (by rw [endX_n (by rw [show nowR (x 0) w = (x 0) 2 from by rcases (show w = 0 ∨ w = 1 ∨ w = 2 ∨ w = 3 ∨ w = 4 ∨ w = 5 ∨ w = 6 ∨ w = 7 ∨ w = 8 ∨ w = 9 by omega) with e | e | e | e | e | e | e | e | e | e <;> first | (exfalso; omega) | (subst e; rfl)]; first | omega | (unfold allUseP; omega))])
  · skip
    refine jx_tabIn (tgt := 88) (off := 87) E 4 dX5_now_1 c1 (by unfold inR; decide) (by rfl) (by decide) ?_
    refine jx_aload_n E 0 dX5_now_88 rfl ?_
    refine jx_get E f_X5 0 (v := .ref (a 1)) wx_obj (by decide) wf_X5_10 rfl dX5_now_89 ?_
    refine jx_get E f_X4 3 (v := vI ((x 0) 3)) (wx_town (j := 0) (by decide)) (by decide) wf_X5_65 rfl dX5_now_92 ?_
    exact jx_iret E hr dX5_now_95 (by rcases (show w = 0 ∨ w = 1 ∨ w = 2 ∨ w = 3 ∨ w = 4 ∨ w = 5 ∨ w = 6 ∨ w = 7 ∨ w = 8 ∨ w = 9 by omega) with e | e | e | e | e | e | e | e | e | e <;> first | (exfalso; omega) | (subst e; rfl)) (by rw [endX_n (by rw [show nowR (x 0) w = (x 0) 3 from by rcases (show w = 0 ∨ w = 1 ∨ w = 2 ∨ w = 3 ∨ w = 4 ∨ w = 5 ∨ w = 6 ∨ w = 7 ∨ w = 8 ∨ w = 9 by omega) with e | e | e | e | e | e | e | e | e | e <;> first | (exfalso; omega) | (subst e; rfl)]; first | omega | (unfold allUseP; omega))])
  · skip
    refine jx_tabIn (tgt := 96) (off := 95) E 5 dX5_now_1 c1 (by unfold inR; decide) (by rfl) (by decide) ?_
    refine jx_aload_n E 0 dX5_now_96 rfl ?_
    refine jx_get E f_X5 0 (v := .ref (a 1)) wx_obj (by decide) wf_X5_10 rfl dX5_now_97 ?_
    refine jx_get E f_X4 4 (v := .ref (a 2)) (wx_town (j := 0) (by decide)) (by decide) wf_X5_68 rfl dX5_now_100 ?_
    refine jx_aload_n E 0 dX5_now_103 rfl ?_
    refine jx_get E f_X5 0 (v := .ref (a 1)) wx_obj (by decide) wf_X5_10 rfl dX5_now_104 ?_
    refine jx_callVi E [] [.ref (a 2)] (c_X4_weekOfDay_0 l G a x  (by omega)) mb_X4_weekOfDay mv_X4_weekOfDay wl_X5_77 f_X4 (wx_town (j := 0) (by decide)) dX5_now_107 ?_
    refine jx_iald E (v := (x 0) (5 + (weekP (x 0)))) (wx_rain (j := 0) (by decide)) (rowI_at (by omega) (by omega)) (by omega) (by omega) (by decide) dX5_now_110 ?_
    exact jx_iret E hr dX5_now_111 (by rcases (show w = 0 ∨ w = 1 ∨ w = 2 ∨ w = 3 ∨ w = 4 ∨ w = 5 ∨ w = 6 ∨ w = 7 ∨ w = 8 ∨ w = 9 by omega) with e | e | e | e | e | e | e | e | e | e <;> first | (exfalso; omega) | (subst e; rfl)) (by rw [endX_n (by rw [show nowR (x 0) w = (x 0) (5 + (weekP (x 0))) from by rcases (show w = 0 ∨ w = 1 ∨ w = 2 ∨ w = 3 ∨ w = 4 ∨ w = 5 ∨ w = 6 ∨ w = 7 ∨ w = 8 ∨ w = 9 by omega) with e | e | e | e | e | e | e | e | e | e <;> first | (exfalso; omega) | (subst e; rfl)]; first | omega | (unfold allUseP; omega))])
  · skip
    refine jx_tabIn (tgt := 112) (off := 111) E 6 dX5_now_1 c1 (by unfold inR; decide) (by rfl) (by decide) ?_
    refine jx_aload_n E 0 dX5_now_112 rfl ?_
    refine jx_get E f_X5 0 (v := .ref (a 1)) wx_obj (by decide) wf_X5_10 rfl dX5_now_113 ?_
    refine jx_get E f_X4 5 (v := .ref (a 3)) (wx_town (j := 0) (by decide)) (by decide) wf_X5_71 rfl dX5_now_116 ?_
    refine jx_aload_n E 0 dX5_now_119 rfl ?_
    refine jx_get E f_X5 0 (v := .ref (a 1)) wx_obj (by decide) wf_X5_10 rfl dX5_now_120 ?_
    refine jx_callVi E [] [.ref (a 3)] (c_X4_weekOfDay_0 l G a x  (by omega)) mb_X4_weekOfDay mv_X4_weekOfDay wl_X5_77 f_X4 (wx_town (j := 0) (by decide)) dX5_now_123 ?_
    refine jx_iald E (v := (x 0) (13 + (weekP (x 0)))) (wx_cold (j := 0) (by decide)) (rowI_at (by omega) (by omega)) (by omega) (by omega) (by decide) dX5_now_126 ?_
    exact jx_iret E hr dX5_now_127 (by rcases (show w = 0 ∨ w = 1 ∨ w = 2 ∨ w = 3 ∨ w = 4 ∨ w = 5 ∨ w = 6 ∨ w = 7 ∨ w = 8 ∨ w = 9 by omega) with e | e | e | e | e | e | e | e | e | e <;> first | (exfalso; omega) | (subst e; rfl)) (by rw [endX_n (by rw [show nowR (x 0) w = (x 0) (13 + (weekP (x 0))) from by rcases (show w = 0 ∨ w = 1 ∨ w = 2 ∨ w = 3 ∨ w = 4 ∨ w = 5 ∨ w = 6 ∨ w = 7 ∨ w = 8 ∨ w = 9 by omega) with e | e | e | e | e | e | e | e | e | e <;> first | (exfalso; omega) | (subst e; rfl)]; first | omega | (unfold allUseP; omega))])
  · skip
    refine jx_tabIn (tgt := 128) (off := 127) E 7 dX5_now_1 c1 (by unfold inR; decide) (by rfl) (by decide) ?_
    refine jx_aload_n E 0 dX5_now_128 rfl ?_
    refine jx_get E f_X5 0 (v := .ref (a 1)) wx_obj (by decide) wf_X5_10 rfl dX5_now_129 ?_
    refine jx_callVi E [] [] (c_X4_setOfOff_0 l G a x  hvv) mb_X4_setOfOff mv_X4_setOfOff wl_X5_81 f_X4 (wx_town (j := 0) (by decide)) dX5_now_132 ?_
    exact jx_iret E hr dX5_now_135 (by rcases (show w = 0 ∨ w = 1 ∨ w = 2 ∨ w = 3 ∨ w = 4 ∨ w = 5 ∨ w = 6 ∨ w = 7 ∨ w = 8 ∨ w = 9 by omega) with e | e | e | e | e | e | e | e | e | e <;> first | (exfalso; omega) | (subst e; rfl)) (by rw [endX_n (by rw [show nowR (x 0) w = offsN (x 0) ((x 0) 4).toNat from by rcases (show w = 0 ∨ w = 1 ∨ w = 2 ∨ w = 3 ∨ w = 4 ∨ w = 5 ∨ w = 6 ∨ w = 7 ∨ w = 8 ∨ w = 9 by omega) with e | e | e | e | e | e | e | e | e | e <;> first | (exfalso; omega) | (subst e; rfl)]; first | omega | (unfold allUseP; omega))])
  · skip
    refine jx_tabIn (tgt := 136) (off := 135) E 8 dX5_now_1 c1 (by unfold inR; decide) (by rfl) (by decide) ?_
    refine jx_aload_n E 0 dX5_now_136 rfl ?_
    refine jx_get E f_X5 0 (v := .ref (a 1)) wx_obj (by decide) wf_X5_10 rfl dX5_now_137 ?_
    refine jx_callVi E [] [] (c_X4_noise_0 l G a x  hvv) mb_X4_noise mv_X4_noise wl_X5_84 f_X4 (wx_town (j := 0) (by decide)) dX5_now_140 ?_
    exact jx_iret E hr dX5_now_143 (by rcases (show w = 0 ∨ w = 1 ∨ w = 2 ∨ w = 3 ∨ w = 4 ∨ w = 5 ∨ w = 6 ∨ w = 7 ∨ w = 8 ∨ w = 9 by omega) with e | e | e | e | e | e | e | e | e | e <;> first | (exfalso; omega) | (subst e; rfl)) (by rw [endX_n (by rw [show nowR (x 0) w = noiseP (x 0) from by rcases (show w = 0 ∨ w = 1 ∨ w = 2 ∨ w = 3 ∨ w = 4 ∨ w = 5 ∨ w = 6 ∨ w = 7 ∨ w = 8 ∨ w = 9 by omega) with e | e | e | e | e | e | e | e | e | e <;> first | (exfalso; omega) | (subst e; rfl)]; first | omega | (unfold allUseP; omega))])
  · skip
    refine jx_tabIn (tgt := 144) (off := 143) E 9 dX5_now_1 c1 (by unfold inR; decide) (by rfl) (by decide) ?_
    refine jx_aload_n E 0 dX5_now_144 rfl ?_
    refine jx_get E f_X5 0 (v := .ref (a 1)) wx_obj (by decide) wf_X5_10 rfl dX5_now_145 ?_
    refine jx_callVi E [] [] (c_X4_usesTogether_0 l G a x  hvv) mb_X4_usesTogether mv_X4_usesTogether wl_X5_87 f_X4 (wx_town (j := 0) (by decide)) dX5_now_148 ?_
    exact jx_iret E hr dX5_now_151 (by rcases (show w = 0 ∨ w = 1 ∨ w = 2 ∨ w = 3 ∨ w = 4 ∨ w = 5 ∨ w = 6 ∨ w = 7 ∨ w = 8 ∨ w = 9 by omega) with e | e | e | e | e | e | e | e | e | e <;> first | (exfalso; omega) | (subst e; rfl)) (by rw [endX_n (by rw [show nowR (x 0) w = allUseP (x 0) from by rcases (show w = 0 ∨ w = 1 ∨ w = 2 ∨ w = 3 ∨ w = 4 ∨ w = 5 ∨ w = 6 ∨ w = 7 ∨ w = 8 ∨ w = 9 by omega) with e | e | e | e | e | e | e | e | e | e <;> first | (exfalso; omega) | (subst e; rfl)]; first | omega | (unfold allUseP; omega))])
  · skip
    refine jx_tabOut (tgt := 152) E dX5_now_1 c1 (by decide) ?_
    refine jx_aload_n E 0 dX5_now_152 rfl ?_
    refine jx_ldc E wc_X5_53 dX5_now_153 ?_
    refine jx_callVi E [vI (-1000000001)] [] (c_X5_found l G a x (f := (-1000000001)) (by omega)) mb_X5_found mv_X5_found wl_X5_54 f_X5 wx_obj dX5_now_155 ?_
    exact jx_iret E hr dX5_now_158 (by simp only [nowR]; repeat rw [if_neg (by omega)]) (by rw [show nowR (x 0) w = -1000000001 from by simp only [nowR]; repeat rw [if_neg (by omega)]]; rw [endX_f (by decide)])
set_option maxHeartbeats 4000000 in
theorem c_X5_fountain (l : Launch) (G : GT) (a : Nat → Nat) (x : MS) {k : Int} (h1 : VT 99999 (x 0)) (h2 : inR k) : CtI l G yX5_fountain cX5_fountain 2 (some .int) 3 [.ref (a 0), vI k] (wsX G a x) (fountainR (x 0) k) (wsX G a (endX (if vKind k ∧ x 0 4 ≠ 8 then setc x 0 (addP (x 0) k) else x) (fountainR (x 0) k))) := by
  obtain ⟨v0, v1, v2, v3, v4, v5, v6, v7⟩ := id h1
  unfold inR at h2
  refine CtI.of (by decide) (Nat.le_of_ble_eq_true rfl) ?_
  intro p e s m args below meth c A E hr
  refine jx_lv (lv' := [(0, .ref (a 0)), (1, vI k)]) [0, 1] rfl ?_
  refine jx_iload_n E 1 dX5_fountain_0 rfl ?_
  refine jx_callSi E [vI k] [] (c_X5_isKind l G (wsX G a x) (k := k) (by unfold inR; omega)) mb_X5_isKind ms_X5_isKind wl_X5_90 dX5_fountain_1 ?_
  refine jx_if_ne (tgt := 14) E dX5_fountain_4 (by decide) (fun c1 => ?_) (fun c1 => ?_)
  · skip
    refine jx_aload_n E 0 dX5_fountain_14 rfl ?_
    refine jx_get E f_X5 0 (v := .ref (a 1)) wx_obj (by decide) wf_X5_10 rfl dX5_fountain_15 ?_
    refine jx_get E f_X4 7 (v := vI ((x 0) 4)) (wx_town (j := 0) (by decide)) (by decide) wf_X5_94 rfl dX5_fountain_18 ?_
    refine jx_bipush E dX5_fountain_21 ?_
    refine jx_icmp_lt (tgt := 33) E dX5_fountain_23 (by decide) (fun c2 => ?_) (fun c2 => ?_)
    · skip
      refine jx_aload_n E 0 dX5_fountain_33 rfl ?_
      refine jx_get E f_X5 0 (v := .ref (a 1)) wx_obj (by decide) wf_X5_10 rfl dX5_fountain_34 ?_
      refine jx_iload_n E 1 dX5_fountain_37 rfl ?_
      refine jx_callVi E [vI k] [] (c_X4_addOne_0 l G a x (kd := k) (by omega)) mb_X4_addOne mv_X4_addOne wl_X5_98 f_X4 (wx_town (j := 0) (by decide)) dX5_fountain_38 ?_
      exact jx_iret E hr dX5_fountain_41 (by simp only [fountainR]; omega) (by rw [show fountainR (x 0) k = x 0 4 from by simp only [fountainR]; omega, if_pos (show vKind k ∧ x 0 4 ≠ 8 by omega), endX_n (by omega), if_neg (by omega)])
    · skip
      refine jx_aload_n E 0 dX5_fountain_26 rfl ?_
      refine jx_ldc E wc_X5_97 dX5_fountain_27 ?_
      refine jx_callVi E [vI (-1000000002)] [] (c_X5_found l G a x (f := (-1000000002)) (by omega)) mb_X5_found mv_X5_found wl_X5_54 f_X5 wx_obj dX5_fountain_29 ?_
      exact jx_iret E hr dX5_fountain_32 (by simp only [fountainR]; omega) (by rw [show fountainR (x 0) k = (-1000000002) from by simp only [fountainR]; omega, if_neg (show ¬ (vKind k ∧ x 0 4 ≠ 8) by omega), endX_f (by decide)])
  · skip
    refine jx_aload_n E 0 dX5_fountain_7 rfl ?_
    refine jx_ldc E wc_X5_53 dX5_fountain_8 ?_
    refine jx_callVi E [vI (-1000000001)] [] (c_X5_found l G a x (f := (-1000000001)) (by omega)) mb_X5_found mv_X5_found wl_X5_54 f_X5 wx_obj dX5_fountain_10 ?_
    exact jx_iret E hr dX5_fountain_13 (by simp only [fountainR]; omega) (by rw [show fountainR (x 0) k = (-1000000001) from by simp only [fountainR]; omega, if_neg (show ¬ (vKind k ∧ x 0 4 ≠ 8) by omega), endX_f (by decide)])
set_option maxHeartbeats 4000000 in
theorem c_X5_of (l : Launch) (G : GT) (a : Nat → Nat) (x : MS) {f w : Int} (h1 : VT 99999 (x 0)) (h2 : inR f) (h3 : inR w) : CtI l G yX5_of cX5_of 5 (some .int) 4 [.ref (a 0), vI f, vI w] (wsX G a x) (ofR (x 0) f w) (wsX G a (endX x (ofR (x 0) f w))) := by
  obtain ⟨v0, v1, v2, v3, v4, v5, v6, v7⟩ := id h1
  unfold inR at h2 h3
  have hvv : VV (x 0) := VT_up h1 (by omega)
  obtain ⟨hD, hC⟩ := VV_use hvv
  have hcd := cold_in (x 0)
  refine CtI.of (by decide) (Nat.le_of_ble_eq_true rfl) ?_
  intro p e s m args below meth c A E hr
  refine jx_lv (lv' := [(0, .ref (a 0)), (1, vI f), (2, vI w)]) [0, 1, 2] rfl ?_
  refine jx_aload_n E 0 dX5_of_0 rfl ?_
  refine jx_get E f_X5 0 (v := .ref (a 1)) wx_obj (by decide) wf_X5_10 rfl dX5_of_1 ?_
  refine jx_iload_n E 1 dX5_of_4 rfl ?_
  refine jx_callVi E [vI f] [] (c_X4_has_0 l G a x (f := f) (by unfold inR; omega) v4) mb_X4_has mv_X4_has wl_X5_101 f_X4 (wx_town (j := 0) (by decide)) dX5_of_5 ?_
  refine jx_if_ne (tgt := 18) E dX5_of_8 (by decide) (fun c1 => ?_) (fun c1 => ?_)
  · skip
    refine jx_aload_n E 0 dX5_of_18 rfl ?_
    refine jx_get E f_X5 0 (v := .ref (a 1)) wx_obj (by decide) wf_X5_10 rfl dX5_of_19 ?_
    refine jx_get E f_X4 6 (v := .ref (a 4)) (wx_town (j := 0) (by decide)) (by decide) wf_X5_104 rfl dX5_of_22 ?_
    refine jx_iload_n E 1 dX5_of_25 rfl ?_
    refine jx_aald E 2 (y := a (5 + 12 * 0 + f.toNat)) (wx_row (j := 0) (by decide)) rfl rfl (by omega) (by omega) (by decide) dX5_of_26 ?_
    refine jx_astore_n E dX5_of_27 (by decide) [(3, .ref (a (5 + 12 * 0 + f.toNat))), (0, .ref (a 0)), (1, vI f), (2, vI w)] rfl ?_
    refine jx_aload_n E 1 dX5_of_28 rfl ?_
    refine jx_get E f_X5 0 (v := .ref (a 1)) wx_obj (by decide) wf_X5_10 rfl dX5_of_29 ?_
    refine jx_callVi E [] [] (c_X4_isCold_0 l G a x  hD hC) mb_X4_isCold mv_X4_isCold wl_X5_108 f_X4 (wx_town (j := 0) (by decide)) dX5_of_32 ?_
    refine jx_istore E dX5_of_35 (by decide) [(4, vI (coldP (x 0))), (3, .ref (a (5 + 12 * 0 + f.toNat))), (0, .ref (a 0)), (1, vI f), (2, vI w)] rfl ?_
    refine jx_iload_n E 4 dX5_of_37 rfl ?_
    rcases (show w = 0 ∨ w = 1 ∨ w = 2 ∨ w = 3 ∨ w = 4 ∨ w = 5 ∨ w = 6 ∨ w = 7 ∨ w = 8 ∨ (w < 0 ∨ 8 < w) by omega) with c2 | c2 | c2 | c2 | c2 | c2 | c2 | c2 | c2 | c2
    · skip
      refine jx_tabIn (tgt := 88) (off := 50) E 0 dX5_of_38 c2 (by unfold inR; decide) (by rfl) (by decide) ?_
      refine jx_aload_n E 1 dX5_of_88 rfl ?_
      refine jx_get E f_X0 0 (v := vI ((x 0) (21 + 5 * f))) (wx_fou (j := 0) (by decide) (by omega) (by omega)) (by decide) wf_X5_112 rfl dX5_of_89 ?_
      exact jx_iret E hr dX5_of_92 (by have hV : vFou (x 0) f ∧ 0 ≤ w ∧ w ≤ 8 := (by omega); simp only [ofR, if_pos hV]; rcases (show w = 0 ∨ w = 1 ∨ w = 2 ∨ w = 3 ∨ w = 4 ∨ w = 5 ∨ w = 6 ∨ w = 7 ∨ w = 8 by omega) with e | e | e | e | e | e | e | e | e <;> first | (exfalso; omega) | (rw [e]; rfl) | (rw [e]; simp; done)) (by have hV : vFou (x 0) f ∧ 0 ≤ w ∧ w ≤ 8 := (by omega); rw [endX_n (of_in h1 hV)])
    · skip
      refine jx_tabIn (tgt := 93) (off := 55) E 1 dX5_of_38 c2 (by unfold inR; decide) (by rfl) (by decide) ?_
      refine jx_aload_n E 1 dX5_of_93 rfl ?_
      refine jx_get E f_X0 1 (v := vI ((x 0) (21 + 5 * f + 1))) (wx_fou (j := 0) (by decide) (by omega) (by omega)) (by decide) wf_X5_117 rfl dX5_of_94 ?_
      exact jx_iret E hr dX5_of_97 (by have hV : vFou (x 0) f ∧ 0 ≤ w ∧ w ≤ 8 := (by omega); simp only [ofR, if_pos hV]; rcases (show w = 0 ∨ w = 1 ∨ w = 2 ∨ w = 3 ∨ w = 4 ∨ w = 5 ∨ w = 6 ∨ w = 7 ∨ w = 8 by omega) with e | e | e | e | e | e | e | e | e <;> first | (exfalso; omega) | (rw [e]; rfl) | (rw [e]; simp; done)) (by have hV : vFou (x 0) f ∧ 0 ≤ w ∧ w ≤ 8 := (by omega); rw [endX_n (of_in h1 hV)])
    · skip
      refine jx_tabIn (tgt := 98) (off := 60) E 2 dX5_of_38 c2 (by unfold inR; decide) (by rfl) (by decide) ?_
      refine jx_aload_n E 1 dX5_of_98 rfl ?_
      refine jx_get E f_X0 2 (v := vI ((x 0) (21 + 5 * f + 2))) (wx_fou (j := 0) (by decide) (by omega) (by omega)) (by decide) wf_X5_120 rfl dX5_of_99 ?_
      exact jx_iret E hr dX5_of_102 (by have hV : vFou (x 0) f ∧ 0 ≤ w ∧ w ≤ 8 := (by omega); simp only [ofR, if_pos hV]; rcases (show w = 0 ∨ w = 1 ∨ w = 2 ∨ w = 3 ∨ w = 4 ∨ w = 5 ∨ w = 6 ∨ w = 7 ∨ w = 8 by omega) with e | e | e | e | e | e | e | e | e <;> first | (exfalso; omega) | (rw [e]; rfl) | (rw [e]; simp; done)) (by have hV : vFou (x 0) f ∧ 0 ≤ w ∧ w ≤ 8 := (by omega); rw [endX_n (of_in h1 hV)])
    · skip
      refine jx_tabIn (tgt := 103) (off := 65) E 3 dX5_of_38 c2 (by unfold inR; decide) (by rfl) (by decide) ?_
      refine jx_aload_n E 1 dX5_of_103 rfl ?_
      refine jx_get E f_X0 3 (v := vI ((x 0) (21 + 5 * f + 3))) (wx_fou (j := 0) (by decide) (by omega) (by omega)) (by decide) wf_X5_123 rfl dX5_of_104 ?_
      exact jx_iret E hr dX5_of_107 (by have hV : vFou (x 0) f ∧ 0 ≤ w ∧ w ≤ 8 := (by omega); simp only [ofR, if_pos hV]; rcases (show w = 0 ∨ w = 1 ∨ w = 2 ∨ w = 3 ∨ w = 4 ∨ w = 5 ∨ w = 6 ∨ w = 7 ∨ w = 8 by omega) with e | e | e | e | e | e | e | e | e <;> first | (exfalso; omega) | (rw [e]; rfl) | (rw [e]; simp; done)) (by have hV : vFou (x 0) f ∧ 0 ≤ w ∧ w ≤ 8 := (by omega); rw [endX_n (of_in h1 hV)])
    · skip
      refine jx_tabIn (tgt := 108) (off := 70) E 4 dX5_of_38 c2 (by unfold inR; decide) (by rfl) (by decide) ?_
      refine jx_aload_n E 1 dX5_of_108 rfl ?_
      refine jx_get E f_X0 4 (v := vI ((x 0) (21 + 5 * f + 4))) (wx_fou (j := 0) (by decide) (by omega) (by omega)) (by decide) wf_X5_126 rfl dX5_of_109 ?_
      exact jx_iret E hr dX5_of_112 (by have hV : vFou (x 0) f ∧ 0 ≤ w ∧ w ≤ 8 := (by omega); simp only [ofR, if_pos hV]; rcases (show w = 0 ∨ w = 1 ∨ w = 2 ∨ w = 3 ∨ w = 4 ∨ w = 5 ∨ w = 6 ∨ w = 7 ∨ w = 8 by omega) with e | e | e | e | e | e | e | e | e <;> first | (exfalso; omega) | (rw [e]; rfl) | (rw [e]; simp; done)) (by have hV : vFou (x 0) f ∧ 0 ≤ w ∧ w ≤ 8 := (by omega); rw [endX_n (of_in h1 hV)])
    · skip
      refine jx_tabIn (tgt := 113) (off := 75) E 5 dX5_of_38 c2 (by unfold inR; decide) (by rfl) (by decide) ?_
      refine jx_aload_n E 1 dX5_of_113 rfl ?_
      refine jx_iload E 0 dX5_of_114 rfl ?_
      refine jx_callVi E [vI (coldP (x 0))] [] (c_X0_uses_0 l G a x (cd := coldP (x 0)) (i := f) (by omega) (v7 f (by omega) (by omega)) hcd) mb_X0_uses mv_X0_uses wl_X5_129 f_X0 (wx_fou (j := 0) (by decide) (by omega) (by omega)) dX5_of_116 ?_
      exact jx_iret E hr dX5_of_119 (by have hV : vFou (x 0) f ∧ 0 ≤ w ∧ w ≤ 8 := (by omega); simp only [ofR, if_pos hV]; rcases (show w = 0 ∨ w = 1 ∨ w = 2 ∨ w = 3 ∨ w = 4 ∨ w = 5 ∨ w = 6 ∨ w = 7 ∨ w = 8 by omega) with e | e | e | e | e | e | e | e | e <;> first | (exfalso; omega) | (rw [e]; rfl) | (rw [e]; simp; done)) (by have hV : vFou (x 0) f ∧ 0 ≤ w ∧ w ≤ 8 := (by omega); rw [endX_n (of_in h1 hV)])
    · skip
      refine jx_tabIn (tgt := 120) (off := 82) E 6 dX5_of_38 c2 (by unfold inR; decide) (by rfl) (by decide) ?_
      refine jx_aload_n E 1 dX5_of_120 rfl ?_
      refine jx_callVi E [] [] (c_X0_heard_0 l G a x (i := f) (by omega) (v7 f (by omega) (by omega))) mb_X0_heard mv_X0_heard wl_X5_133 f_X0 (wx_fou (j := 0) (by decide) (by omega) (by omega)) dX5_of_121 ?_
      exact jx_iret E hr dX5_of_124 (by have hV : vFou (x 0) f ∧ 0 ≤ w ∧ w ≤ 8 := (by omega); simp only [ofR, if_pos hV]; rcases (show w = 0 ∨ w = 1 ∨ w = 2 ∨ w = 3 ∨ w = 4 ∨ w = 5 ∨ w = 6 ∨ w = 7 ∨ w = 8 by omega) with e | e | e | e | e | e | e | e | e <;> first | (exfalso; omega) | (rw [e]; rfl) | (rw [e]; simp; done)) (by have hV : vFou (x 0) f ∧ 0 ≤ w ∧ w ≤ 8 := (by omega); rw [endX_n (of_in h1 hV)])
    · skip
      refine jx_tabIn (tgt := 125) (off := 87) E 7 dX5_of_38 c2 (by unfold inR; decide) (by rfl) (by decide) ?_
      refine jx_bipush E dX5_of_125 ?_
      refine jx_aload_n E 1 dX5_of_127 rfl ?_
      refine jx_iload E 0 dX5_of_128 rfl ?_
      refine jx_callVi E [vI (coldP (x 0))] [vI 100] (c_X0_gains_0 l G a x (cd := coldP (x 0)) (i := f) (by omega) (v7 f (by omega) (by omega)) hcd) mb_X0_gains mv_X0_gains wl_X5_136 f_X0 (wx_fou (j := 0) (by decide) (by omega) (by omega)) dX5_of_130 ?_
      refine jx_iadd E dX5_of_133 ?_
      exact jx_iret E hr dX5_of_134 (by have hV : vFou (x 0) f ∧ 0 ≤ w ∧ w ≤ 8 := (by omega); simp only [ofR, if_pos hV]; rcases (show w = 0 ∨ w = 1 ∨ w = 2 ∨ w = 3 ∨ w = 4 ∨ w = 5 ∨ w = 6 ∨ w = 7 ∨ w = 8 by omega) with e | e | e | e | e | e | e | e | e <;> first | (exfalso; omega) | (rw [e]; rfl) | (rw [e]; simp; done)) (by have hV : vFou (x 0) f ∧ 0 ≤ w ∧ w ≤ 8 := (by omega); rw [endX_n (of_in h1 hV)])
    · skip
      refine jx_tabIn (tgt := 135) (off := 97) E 8 dX5_of_38 c2 (by unfold inR; decide) (by rfl) (by decide) ?_
      refine jx_sipush E dX5_of_135 ?_
      refine jx_aload_n E 1 dX5_of_138 rfl ?_
      refine jx_callVi E [] [vI 1000] (c_X0_givesWay_0 l G a x (i := f) (by omega) (v7 f (by omega) (by omega))) mb_X0_givesWay mv_X0_givesWay wl_X5_139 f_X0 (wx_fou (j := 0) (by decide) (by omega) (by omega)) dX5_of_139 ?_
      refine jx_iadd E dX5_of_142 ?_
      exact jx_iret E hr dX5_of_143 (by have hV : vFou (x 0) f ∧ 0 ≤ w ∧ w ≤ 8 := (by omega); simp only [ofR, if_pos hV]; rcases (show w = 0 ∨ w = 1 ∨ w = 2 ∨ w = 3 ∨ w = 4 ∨ w = 5 ∨ w = 6 ∨ w = 7 ∨ w = 8 by omega) with e | e | e | e | e | e | e | e | e <;> first | (exfalso; omega) | (rw [e]; rfl) | (rw [e]; simp; done)) (by have hV : vFou (x 0) f ∧ 0 ≤ w ∧ w ≤ 8 := (by omega); rw [endX_n (of_in h1 hV)])
    · skip
      refine jx_tabOut (tgt := 144) E dX5_of_38 c2 (by decide) ?_
      refine jx_aload_n E 2 dX5_of_144 rfl ?_
      refine jx_ldc E wc_X5_53 dX5_of_145 ?_
      refine jx_callVi E [vI (-1000000001)] [] (c_X5_found l G a x (f := (-1000000001)) (by omega)) mb_X5_found mv_X5_found wl_X5_54 f_X5 wx_obj dX5_of_147 ?_
      exact jx_iret E hr dX5_of_150 (by have hV : ¬ (vFou (x 0) f ∧ 0 ≤ w ∧ w ≤ 8) := (by omega); simp only [ofR, if_neg hV]) (by have hV : ¬ (vFou (x 0) f ∧ 0 ≤ w ∧ w ≤ 8) := (by omega); simp only [ofR, if_neg hV]; rw [endX_f (by decide)])
  · skip
    refine jx_aload_n E 0 dX5_of_11 rfl ?_
    refine jx_ldc E wc_X5_53 dX5_of_12 ?_
    refine jx_callVi E [vI (-1000000001)] [] (c_X5_found l G a x (f := (-1000000001)) (by omega)) mb_X5_found mv_X5_found wl_X5_54 f_X5 wx_obj dX5_of_14 ?_
    exact jx_iret E hr dX5_of_17 (by have hV : ¬ (vFou (x 0) f ∧ 0 ≤ w ∧ w ≤ 8) := (by omega); simp only [ofR, if_neg hV]) (by have hV : ¬ (vFou (x 0) f ∧ 0 ≤ w ∧ w ≤ 8) := (by omega); simp only [ofR, if_neg hV]; rw [endX_f (by decide)])
set_option maxHeartbeats 4000000 in
theorem c_X5_set (l : Launch) (G : GT) (a : Nat → Nat) (x : MS) {f w v : Int} (h1 : VT 99999 (x 0)) (h2 : inR f) (h3 : inR w) (h4 : inR v) : CtI l G yX5_set cX5_set 6 (some .int) 2 [.ref (a 0), vI f, vI w, vI v] (wsX G a x) (setR (x 0) f w v) (wsX G a (endX (if vSet (x 0) f w v then setc x 0 (updI (x 0) (21 + 5 * f + w) v) else x) (setR (x 0) f w v))) := by
  obtain ⟨v0, v1, v2, v3, v4, v5, v6, v7⟩ := id h1
  unfold inR at h2 h3 h4
  have hb : vFou (x 0) f → 1 ≤ w ∧ w ≤ 4 → 0 ≤ x 0 (21 + 5 * f + w) := fun q r => by obtain ⟨a1, a2, a3, a4, a5⟩ := v7 f q.1 q.2; rcases (show w = 1 ∨ w = 2 ∨ w = 3 ∨ w = 4 by omega) with e | e | e | e <;> subst e <;> omega
  refine CtI.of (by decide) (Nat.le_of_ble_eq_true rfl) ?_
  intro p e s m args below meth c A E hr
  refine jx_lv (lv' := [(0, .ref (a 0)), (1, vI f), (2, vI w), (3, vI v)]) [0, 1, 2, 3] rfl ?_
  refine jx_aload_n E 0 dX5_set_0 rfl ?_
  refine jx_get E f_X5 0 (v := .ref (a 1)) wx_obj (by decide) wf_X5_10 rfl dX5_set_1 ?_
  refine jx_iload_n E 1 dX5_set_4 rfl ?_
  refine jx_callVi E [vI f] [] (c_X4_has_0 l G a x (f := f) (by unfold inR; omega) v4) mb_X4_has mv_X4_has wl_X5_101 f_X4 (wx_town (j := 0) (by decide)) dX5_set_5 ?_
  refine jx_if_eq (tgt := 19) E dX5_set_8 (by decide) (fun c1 => ?_) (fun c1 => ?_)
  · skip
    refine jx_aload_n E 0 dX5_set_19 rfl ?_
    refine jx_ldc E wc_X5_53 dX5_set_20 ?_
    refine jx_callVi E [vI (-1000000001)] [] (c_X5_found l G a x (f := (-1000000001)) (by omega)) mb_X5_found mv_X5_found wl_X5_54 f_X5 wx_obj dX5_set_22 ?_
    exact jx_iret E hr dX5_set_25 (by have hV : ¬ (vSet (x 0) f w v) := (by omega); simp only [setR, if_neg hV]) (by have hV : ¬ (vSet (x 0) f w v) := (by omega); simp only [setR, if_neg hV]; rw [endX_f (by decide)])
  · skip
    refine jx_iload_n E 2 dX5_set_11 rfl ?_
    refine jx_iload_n E 3 dX5_set_12 rfl ?_
    refine jx_callSi E [vI w, vI v] [] (c_X5_maySet l G (wsX G a x) (w := w) (v := v) (by unfold inR; omega) (by unfold inR; omega)) mb_X5_maySet ms_X5_maySet wl_X5_142 dX5_set_13 ?_
    refine jx_if_ne (tgt := 26) E dX5_set_16 (by decide) (fun c2 => ?_) (fun c2 => ?_)
    · skip
      refine jx_aload_n E 0 dX5_set_26 rfl ?_
      refine jx_get E f_X5 0 (v := .ref (a 1)) wx_obj (by decide) wf_X5_10 rfl dX5_set_27 ?_
      refine jx_get E f_X4 6 (v := .ref (a 4)) (wx_town (j := 0) (by decide)) (by decide) wf_X5_104 rfl dX5_set_30 ?_
      refine jx_iload_n E 1 dX5_set_33 rfl ?_
      refine jx_aald E 2 (y := a (5 + 12 * 0 + f.toNat)) (wx_row (j := 0) (by decide)) rfl rfl (by omega) (by omega) (by decide) dX5_set_34 ?_
      refine jx_astore E dX5_set_35 (by decide) [(4, .ref (a (5 + 12 * 0 + f.toNat))), (0, .ref (a 0)), (1, vI f), (2, vI w), (3, vI v)] rfl ?_
      refine jx_iload_n E 3 dX5_set_37 rfl ?_
      refine jx_iconst E dX5_set_38 ?_
      refine jx_icmp_ne (tgt := 58) E dX5_set_39 (by decide) (fun c3 => ?_) (fun c3 => ?_)
      · skip
        refine jx_iload_n E 3 dX5_set_58 rfl ?_
        refine jx_iconst E dX5_set_59 ?_
        refine jx_icmp_ne (tgt := 79) E dX5_set_60 (by decide) (fun c4 => ?_) (fun c4 => ?_)
        · skip
          refine jx_iload_n E 3 dX5_set_79 rfl ?_
          refine jx_iconst E dX5_set_80 ?_
          refine jx_icmp_ne (tgt := 100) E dX5_set_81 (by decide) (fun c5 => ?_) (fun c5 => ?_)
          · skip
            refine jx_aload E 0 dX5_set_100 rfl ?_
            refine jx_get E f_X0 4 (v := vI ((x 0) (21 + 5 * f + 4))) (wx_fou (j := 0) (by decide) (by omega) (by omega)) (by decide) wf_X5_126 rfl dX5_set_102 ?_
            refine jx_istore E dX5_set_105 (by decide) [(5, vI ((x 0) (21 + 5 * f + 4))), (4, .ref (a (5 + 12 * 0 + f.toNat))), (0, .ref (a 0)), (1, vI f), (2, vI w), (3, vI v)] rfl ?_
            refine jx_aload E 1 dX5_set_107 rfl ?_
            refine jx_iload_n E 5 dX5_set_109 rfl ?_
            refine jx_put E f_X0 4 (wx_fou (j := 0) (by decide) (by omega) (by omega)) (by decide) wf_X5_126 rfl rfl rfl (Nat.le_of_ble_eq_true rfl) (wp_fou4 (j := 0) (by decide) (by omega) (by omega)) dX5_set_110 ?_
            refine jx_iload E 0 dX5_set_113 rfl ?_
            exact jx_iret E hr dX5_set_115 (by have hV : vSet (x 0) f w v := (by omega); simp only [setR, if_pos hV]; rcases (show w = 1 ∨ w = 2 ∨ w = 3 ∨ w = 4 by omega) with e | e | e | e <;> subst e <;> first | rfl | (exfalso; omega)) (by have hV : vSet (x 0) f w v := (by omega); simp only [setR, if_pos hV]; rw [endX_n (by omega)]; rcases (show w = 1 ∨ w = 2 ∨ w = 3 ∨ w = 4 by omega) with e | e | e | e <;> subst e <;> first | rfl | (exfalso; omega))
          · skip
            refine jx_aload E 0 dX5_set_84 rfl ?_
            refine jx_get E f_X0 3 (v := vI ((x 0) (21 + 5 * f + 3))) (wx_fou (j := 0) (by decide) (by omega) (by omega)) (by decide) wf_X5_123 rfl dX5_set_86 ?_
            refine jx_istore E dX5_set_89 (by decide) [(5, vI ((x 0) (21 + 5 * f + 3))), (4, .ref (a (5 + 12 * 0 + f.toNat))), (0, .ref (a 0)), (1, vI f), (2, vI w), (3, vI v)] rfl ?_
            refine jx_aload E 1 dX5_set_91 rfl ?_
            refine jx_iload_n E 5 dX5_set_93 rfl ?_
            refine jx_put E f_X0 3 (wx_fou (j := 0) (by decide) (by omega) (by omega)) (by decide) wf_X5_123 rfl rfl rfl (Nat.le_of_ble_eq_true rfl) (wp_fou3 (j := 0) (by decide) (by omega) (by omega)) dX5_set_94 ?_
            refine jx_goto (tgt := 113) E dX5_set_97 (by decide) ?_
            refine jx_iload E 0 dX5_set_113 rfl ?_
            exact jx_iret E hr dX5_set_115 (by have hV : vSet (x 0) f w v := (by omega); simp only [setR, if_pos hV]; rcases (show w = 1 ∨ w = 2 ∨ w = 3 ∨ w = 4 by omega) with e | e | e | e <;> subst e <;> first | rfl | (exfalso; omega)) (by have hV : vSet (x 0) f w v := (by omega); simp only [setR, if_pos hV]; rw [endX_n (by omega)]; rcases (show w = 1 ∨ w = 2 ∨ w = 3 ∨ w = 4 by omega) with e | e | e | e <;> subst e <;> first | rfl | (exfalso; omega))
        · skip
          refine jx_aload E 0 dX5_set_63 rfl ?_
          refine jx_get E f_X0 2 (v := vI ((x 0) (21 + 5 * f + 2))) (wx_fou (j := 0) (by decide) (by omega) (by omega)) (by decide) wf_X5_120 rfl dX5_set_65 ?_
          refine jx_istore E dX5_set_68 (by decide) [(5, vI ((x 0) (21 + 5 * f + 2))), (4, .ref (a (5 + 12 * 0 + f.toNat))), (0, .ref (a 0)), (1, vI f), (2, vI w), (3, vI v)] rfl ?_
          refine jx_aload E 1 dX5_set_70 rfl ?_
          refine jx_iload_n E 5 dX5_set_72 rfl ?_
          refine jx_put E f_X0 2 (wx_fou (j := 0) (by decide) (by omega) (by omega)) (by decide) wf_X5_120 rfl rfl rfl (Nat.le_of_ble_eq_true rfl) (wp_fou2 (j := 0) (by decide) (by omega) (by omega)) dX5_set_73 ?_
          refine jx_goto (tgt := 113) E dX5_set_76 (by decide) ?_
          refine jx_iload E 0 dX5_set_113 rfl ?_
          exact jx_iret E hr dX5_set_115 (by have hV : vSet (x 0) f w v := (by omega); simp only [setR, if_pos hV]; rcases (show w = 1 ∨ w = 2 ∨ w = 3 ∨ w = 4 by omega) with e | e | e | e <;> subst e <;> first | rfl | (exfalso; omega)) (by have hV : vSet (x 0) f w v := (by omega); simp only [setR, if_pos hV]; rw [endX_n (by omega)]; rcases (show w = 1 ∨ w = 2 ∨ w = 3 ∨ w = 4 by omega) with e | e | e | e <;> subst e <;> first | rfl | (exfalso; omega))
      · skip
        refine jx_aload E 0 dX5_set_42 rfl ?_
        refine jx_get E f_X0 1 (v := vI ((x 0) (21 + 5 * f + 1))) (wx_fou (j := 0) (by decide) (by omega) (by omega)) (by decide) wf_X5_117 rfl dX5_set_44 ?_
        refine jx_istore E dX5_set_47 (by decide) [(5, vI ((x 0) (21 + 5 * f + 1))), (4, .ref (a (5 + 12 * 0 + f.toNat))), (0, .ref (a 0)), (1, vI f), (2, vI w), (3, vI v)] rfl ?_
        refine jx_aload E 1 dX5_set_49 rfl ?_
        refine jx_iload_n E 5 dX5_set_51 rfl ?_
        refine jx_put E f_X0 1 (wx_fou (j := 0) (by decide) (by omega) (by omega)) (by decide) wf_X5_117 rfl rfl rfl (Nat.le_of_ble_eq_true rfl) (wp_fou1 (j := 0) (by decide) (by omega) (by omega)) dX5_set_52 ?_
        refine jx_goto (tgt := 113) E dX5_set_55 (by decide) ?_
        refine jx_iload E 0 dX5_set_113 rfl ?_
        exact jx_iret E hr dX5_set_115 (by have hV : vSet (x 0) f w v := (by omega); simp only [setR, if_pos hV]; rcases (show w = 1 ∨ w = 2 ∨ w = 3 ∨ w = 4 by omega) with e | e | e | e <;> subst e <;> first | rfl | (exfalso; omega)) (by have hV : vSet (x 0) f w v := (by omega); simp only [setR, if_pos hV]; rw [endX_n (by omega)]; rcases (show w = 1 ∨ w = 2 ∨ w = 3 ∨ w = 4 by omega) with e | e | e | e <;> subst e <;> first | rfl | (exfalso; omega))
    · skip
      refine jx_aload_n E 0 dX5_set_19 rfl ?_
      refine jx_ldc E wc_X5_53 dX5_set_20 ?_
      refine jx_callVi E [vI (-1000000001)] [] (c_X5_found l G a x (f := (-1000000001)) (by omega)) mb_X5_found mv_X5_found wl_X5_54 f_X5 wx_obj dX5_set_22 ?_
      exact jx_iret E hr dX5_set_25 (by have hV : ¬ (vSet (x 0) f w v) := (by omega); simp only [setR, if_neg hV]) (by have hV : ¬ (vSet (x 0) f w v) := (by omega); simp only [setR, if_neg hV]; rw [endX_f (by decide)])
set_option maxHeartbeats 4000000 in
theorem c_X5_turn (l : Launch) (G : GT) (a : Nat → Nat) (x : MS) {f k : Int} (h1 : VT 99999 (x 0)) (h2 : inR f) (h3 : inR k) : CtI l G yX5_turn cX5_turn 5 (some .int) 2 [.ref (a 0), vI f, vI k] (wsX G a x) (turnR (x 0) f k) (wsX G a (endX (if vFou (x 0) f ∧ vKind k then setc x 0 (updI (x 0) (21 + 5 * f) k) else x) (turnR (x 0) f k))) := by
  obtain ⟨v0, v1, v2, v3, v4, v5, v6, v7⟩ := id h1
  unfold inR at h2 h3
  have hb : vFou (x 0) f → 0 ≤ x 0 (21 + 5 * f) := fun q => (v7 f q.1 q.2).1.1
  refine CtI.of (by decide) (Nat.le_of_ble_eq_true rfl) ?_
  intro p e s m args below meth c A E hr
  refine jx_lv (lv' := [(0, .ref (a 0)), (1, vI f), (2, vI k)]) [0, 1, 2] rfl ?_
  refine jx_aload_n E 0 dX5_turn_0 rfl ?_
  refine jx_get E f_X5 0 (v := .ref (a 1)) wx_obj (by decide) wf_X5_10 rfl dX5_turn_1 ?_
  refine jx_iload_n E 1 dX5_turn_4 rfl ?_
  refine jx_callVi E [vI f] [] (c_X4_has_0 l G a x (f := f) (by unfold inR; omega) v4) mb_X4_has mv_X4_has wl_X5_101 f_X4 (wx_town (j := 0) (by decide)) dX5_turn_5 ?_
  refine jx_if_eq (tgt := 18) E dX5_turn_8 (by decide) (fun c1 => ?_) (fun c1 => ?_)
  · skip
    refine jx_aload_n E 0 dX5_turn_18 rfl ?_
    refine jx_ldc E wc_X5_53 dX5_turn_19 ?_
    refine jx_callVi E [vI (-1000000001)] [] (c_X5_found l G a x (f := (-1000000001)) (by omega)) mb_X5_found mv_X5_found wl_X5_54 f_X5 wx_obj dX5_turn_21 ?_
    exact jx_iret E hr dX5_turn_24 (by have hV : ¬ (vFou (x 0) f ∧ vKind k) := (by omega); simp only [turnR, if_neg hV]) (by have hV : ¬ (vFou (x 0) f ∧ vKind k) := (by omega); simp only [turnR, if_neg hV]; rw [endX_f (by decide)])
  · skip
    refine jx_iload_n E 2 dX5_turn_11 rfl ?_
    refine jx_callSi E [vI k] [] (c_X5_isKind l G (wsX G a x) (k := k) (by unfold inR; omega)) mb_X5_isKind ms_X5_isKind wl_X5_90 dX5_turn_12 ?_
    refine jx_if_ne (tgt := 25) E dX5_turn_15 (by decide) (fun c2 => ?_) (fun c2 => ?_)
    · skip
      refine jx_aload_n E 0 dX5_turn_25 rfl ?_
      refine jx_get E f_X5 0 (v := .ref (a 1)) wx_obj (by decide) wf_X5_10 rfl dX5_turn_26 ?_
      refine jx_get E f_X4 6 (v := .ref (a 4)) (wx_town (j := 0) (by decide)) (by decide) wf_X5_104 rfl dX5_turn_29 ?_
      refine jx_iload_n E 1 dX5_turn_32 rfl ?_
      refine jx_aald E 2 (y := a (5 + 12 * 0 + f.toNat)) (wx_row (j := 0) (by decide)) rfl rfl (by omega) (by omega) (by decide) dX5_turn_33 ?_
      refine jx_astore_n E dX5_turn_34 (by decide) [(3, .ref (a (5 + 12 * 0 + f.toNat))), (0, .ref (a 0)), (1, vI f), (2, vI k)] rfl ?_
      refine jx_aload_n E 0 dX5_turn_35 rfl ?_
      refine jx_get E f_X0 0 (v := vI ((x 0) (21 + 5 * f))) (wx_fou (j := 0) (by decide) (by omega) (by omega)) (by decide) wf_X5_112 rfl dX5_turn_36 ?_
      refine jx_istore E dX5_turn_39 (by decide) [(4, vI ((x 0) (21 + 5 * f))), (3, .ref (a (5 + 12 * 0 + f.toNat))), (0, .ref (a 0)), (1, vI f), (2, vI k)] rfl ?_
      refine jx_aload_n E 1 dX5_turn_41 rfl ?_
      refine jx_iload_n E 4 dX5_turn_42 rfl ?_
      refine jx_put E f_X0 0 (wx_fou (j := 0) (by decide) (by omega) (by omega)) (by decide) wf_X5_112 rfl rfl rfl (Nat.le_of_ble_eq_true rfl) (wp_fou0 (j := 0) (by decide) (by omega) (by omega)) dX5_turn_43 ?_
      refine jx_iload E 0 dX5_turn_46 rfl ?_
      exact jx_iret E hr dX5_turn_48 (by have hV : vFou (x 0) f ∧ vKind k := (by omega); simp only [turnR, if_pos hV]; try rfl) (by have hV : vFou (x 0) f ∧ vKind k := (by omega); simp only [turnR, if_pos hV]; rw [endX_n (by omega)]; try rfl)
    · skip
      refine jx_aload_n E 0 dX5_turn_18 rfl ?_
      refine jx_ldc E wc_X5_53 dX5_turn_19 ?_
      refine jx_callVi E [vI (-1000000001)] [] (c_X5_found l G a x (f := (-1000000001)) (by omega)) mb_X5_found mv_X5_found wl_X5_54 f_X5 wx_obj dX5_turn_21 ?_
      exact jx_iret E hr dX5_turn_24 (by have hV : ¬ (vFou (x 0) f ∧ vKind k) := (by omega); simp only [turnR, if_neg hV]) (by have hV : ¬ (vFou (x 0) f ∧ vKind k) := (by omega); simp only [turnR, if_neg hV]; rw [endX_f (by decide)])
set_option maxHeartbeats 4000000 in
theorem c_X5_next (l : Launch) (G : GT) (a : Nat → Nat) (x : MS) (h1 : VT 99999 (x 0)) : CtI l G yX5_next cX5_next 2 (some .int) 3 [.ref (a 0)] (wsX G a x) (nextR (x 0)) (wsX G a (endX x (nextR (x 0)))) := by
  obtain ⟨v0, v1, v2, v3, v4, v5, v6, v7⟩ := id h1
  have hvv : VV (x 0) := VT_up h1 (by omega)
  have hb := best_in (x 0) 0 1 (x 0 4).toNat
  refine CtI.of (by decide) (Nat.le_of_ble_eq_true rfl) ?_
  intro p e s m args below meth c A E hr
  refine jx_lv (lv' := [(0, .ref (a 0))]) [0] rfl ?_
  refine jx_aload_n E 0 dX5_next_0 rfl ?_
  refine jx_get E f_X5 0 (v := .ref (a 1)) wx_obj (by decide) wf_X5_10 rfl dX5_next_1 ?_
  refine jx_callVi E [] [] (c_X4_givesWayMost_0 l G a x  hvv) mb_X4_givesWayMost mv_X4_givesWayMost wl_X5_150 f_X4 (wx_town (j := 0) (by decide)) dX5_next_4 ?_
  refine jx_istore_n E dX5_next_7 (by decide) [(1, vI (bestP (x 0) 0 1 ((x 0) 4).toNat)), (0, .ref (a 0))] rfl ?_
  refine jx_iload_n E 0 dX5_next_8 rfl ?_
  refine jx_iconst E dX5_next_9 ?_
  refine jx_icmp_ne (tgt := 22) E dX5_next_10 (by decide) (fun c1 => ?_) (fun c1 => ?_)
  · skip
    refine jx_iload_n E 0 dX5_next_22 rfl ?_
    exact jx_iret E hr dX5_next_23 (by simp only [nextR, noneR]; omega) (by rw [show nextR (x 0) = bestP (x 0) 0 1 ((x 0) 4).toNat from by simp only [nextR, noneR]; omega, endX_n (by omega)])
  · skip
    refine jx_aload_n E 1 dX5_next_13 rfl ?_
    refine jx_ldc E wc_X5_153 dX5_next_14 ?_
    refine jx_callVi E [vI (-1000000004)] [] (c_X5_found l G a x (f := (-1000000004)) (by omega)) mb_X5_found mv_X5_found wl_X5_54 f_X5 wx_obj dX5_next_16 ?_
    refine jx_goto (tgt := 23) E dX5_next_19 (by decide) ?_
    exact jx_iret E hr dX5_next_23 (by simp only [nextR, noneR]; omega) (by rw [show nextR (x 0) = (-1000000004) from by simp only [nextR, noneR]; omega, endX_f (by decide)])
set_option maxHeartbeats 4000000 in
theorem c_X5_days (l : Launch) (G : GT) (a : Nat → Nat) (x : MS) {n : Int} (h1 : VT 99999 (x 0)) (h2 : inR n) : CtI l G yX5_days cX5_days 2 (some .int) 6 [.ref (a 0), vI n] (wsX G a x) (daysR (x 0) n) (wsX G a (endX (if v100 n ∧ x 0 0 + n ≤ 99999 then setc x 0 (daysP n.toNat (x 0)) else x) (daysR (x 0) n))) := by
  obtain ⟨v0, v1, v2, v3, v4, v5, v6, v7⟩ := id h1
  unfold inR at h2
  have hd := VT_days h1 n.toNat
  have hd1 := hd.2.1
  refine CtI.of (by decide) (Nat.le_of_ble_eq_true rfl) ?_
  intro p e s m args below meth c A E hr
  refine jx_lv (lv' := [(0, .ref (a 0)), (1, vI n)]) [0, 1] rfl ?_
  refine jx_iload_n E 1 dX5_days_0 rfl ?_
  refine jx_callSi E [vI n] [] (c_X5_isTried l G (wsX G a x) (n := n) (by unfold inR; omega)) mb_X5_isTried ms_X5_isTried wl_X5_154 dX5_days_1 ?_
  refine jx_if_ne (tgt := 14) E dX5_days_4 (by decide) (fun c1 => ?_) (fun c1 => ?_)
  · skip
    refine jx_aload_n E 0 dX5_days_14 rfl ?_
    refine jx_get E f_X5 0 (v := .ref (a 1)) wx_obj (by decide) wf_X5_10 rfl dX5_days_15 ?_
    refine jx_get E f_X4 0 (v := vI ((x 0) 0)) (wx_town (j := 0) (by decide)) (by decide) wf_X5_74 rfl dX5_days_18 ?_
    refine jx_iload_n E 1 dX5_days_21 rfl ?_
    refine jx_iadd E dX5_days_22 ?_
    refine jx_ldc E wc_X5_157 dX5_days_23 ?_
    refine jx_icmp_le (tgt := 35) E dX5_days_25 (by decide) (fun c2 => ?_) (fun c2 => ?_)
    · skip
      refine jx_aload_n E 0 dX5_days_35 rfl ?_
      refine jx_get E f_X5 0 (v := .ref (a 1)) wx_obj (by decide) wf_X5_10 rfl dX5_days_36 ?_
      refine jx_iload_n E 1 dX5_days_39 rfl ?_
      refine jx_callVv E [vI n] [] (c_X4_passDays_0 l G a x (n := n) (VT_up h1 (by omega)) (by omega)) mb_X4_passDays mv_X4_passDays wl_X5_159 f_X4 (wx_town (j := 0) (by decide)) dX5_days_40 ?_
      refine jx_aload_n E 0 dX5_days_43 rfl ?_
      refine jx_get E f_X5 0 (v := .ref (a 1)) wx_obj (by decide) wf_X5_10 rfl dX5_days_44 ?_
      refine jx_get E f_X4 1 (v := vI ((daysP n.toNat (x 0)) 1)) (wx_town (j := 0) (by decide)) (by decide) wf_X5_58 (by first | rfl | (simp only [setc_at, List.getElem?_cons_zero, List.getElem?_cons_succ]; done) | (simp [setc_at]; done)) dX5_days_47 ?_
      exact jx_iret E hr dX5_days_50 (by simp only [daysR]; omega) (by rw [show daysR (x 0) n = (daysP n.toNat (x 0)) 1 from by simp only [daysR]; omega, if_pos (show v100 n ∧ x 0 0 + n ≤ 99999 by omega), endX_n (by omega)])
    · skip
      refine jx_aload_n E 0 dX5_days_28 rfl ?_
      refine jx_ldc E wc_X5_158 dX5_days_29 ?_
      refine jx_callVi E [vI (-1000000005)] [] (c_X5_found l G a x (f := (-1000000005)) (by omega)) mb_X5_found mv_X5_found wl_X5_54 f_X5 wx_obj dX5_days_31 ?_
      exact jx_iret E hr dX5_days_34 (by simp only [daysR]; omega) (by rw [show daysR (x 0) n = (-1000000005) from by simp only [daysR]; omega, if_neg (show ¬ (v100 n ∧ x 0 0 + n ≤ 99999) by omega), endX_f (by decide)])
  · skip
    refine jx_aload_n E 0 dX5_days_7 rfl ?_
    refine jx_ldc E wc_X5_53 dX5_days_8 ?_
    refine jx_callVi E [vI (-1000000001)] [] (c_X5_found l G a x (f := (-1000000001)) (by omega)) mb_X5_found mv_X5_found wl_X5_54 f_X5 wx_obj dX5_days_10 ?_
    exact jx_iret E hr dX5_days_13 (by simp only [daysR]; omega) (by rw [show daysR (x 0) n = (-1000000001) from by simp only [daysR]; omega, if_neg (show ¬ (v100 n ∧ x 0 0 + n ≤ 99999) by omega), endX_f (by decide)])
set_option maxHeartbeats 4000000 in
theorem c_X5_status (l : Launch) (G : GT) (a : Nat → Nat) (x : MS) {w : Int} (h1 : inR w) : CtI l G yX5_status cX5_status 4 (some .int) 2 [.ref (a 0), vI w] (wsX G a x) (statusR (x 4) w) (wsX G a (if -1 ≤ w ∧ w ≤ 6 then x else setc x 4 (tallyP (x 4) (-1000000001)))) := by
  unfold inR at h1
  refine CtI.of (by decide) (Nat.le_of_ble_eq_true rfl) ?_
  intro p e s m args below meth c A E hr
  refine jx_lv (lv' := [(0, .ref (a 0)), (1, vI w)]) [0, 1] rfl ?_
  refine jx_iload_n E 1 dX5_status_0 rfl ?_
  refine jx_iconst E dX5_status_1 ?_
  refine jx_icmp_lt (tgt := 11) E dX5_status_2 (by decide) (fun c1 => ?_) (fun c1 => ?_)
  · skip
    refine jx_aload_n E 0 dX5_status_11 rfl ?_
    refine jx_ldc E wc_X5_53 dX5_status_12 ?_
    refine jx_callVi E [vI (-1000000001)] [] (c_X5_found l G a x (f := (-1000000001)) (by omega)) mb_X5_found mv_X5_found wl_X5_54 f_X5 wx_obj dX5_status_14 ?_
    exact jx_iret E hr dX5_status_17 (by simp only [statusR]; rw [if_neg (by omega)]) (by rw [if_neg (by omega)])
  · skip
    refine jx_iload_n E 1 dX5_status_5 rfl ?_
    refine jx_bipush E dX5_status_6 ?_
    refine jx_icmp_lt (tgt := 18) E dX5_status_8 (by decide) (fun c2 => ?_) (fun c2 => ?_)
    · skip
      refine jx_iload_n E 1 dX5_status_18 rfl ?_
      refine jx_if_lt (tgt := 29) E dX5_status_19 (by decide) (fun c3 => ?_) (fun c3 => ?_)
      · skip
        refine jx_iconst E dX5_status_29 ?_
        refine jx_istore_n E dX5_status_30 (by decide) [(2, vI 0), (0, .ref (a 0)), (1, vI w)] rfl ?_
        refine jx_iconst E dX5_status_31 ?_
        refine jx_istore_n E dX5_status_32 (by decide) [(3, vI 0), (2, vI 0), (0, .ref (a 0)), (1, vI w)] rfl ?_
        have LP33 : ∀ (n2 : Nat) (k : Nat), ((k : Int) ≤ 7) → (7 - (k : Int) < n2) → JX p l e (rmL 2) s m args below meth c 4 G A 0 0 (QI below args s G A (statusR (x 4) w) (wsX G a (if -1 ≤ w ∧ w ≤ 6 then x else setc x 4 (tallyP (x 4) (-1000000001))))) (wsX G a x) 33 [(3, vI (k : Int)), (2, vI (sumP (x 4) k)), (0, .ref (a 0)), (1, vI w)] [] := by
          intro n2
          induction n2 with
          | zero => intro k q1 q2; exfalso; omega
          | succ n2 ih =>
            intro k q1 q2
            refine jx_iload_n E 0 dX5_status_33 rfl ?_
            refine jx_bipush E dX5_status_34 ?_
            refine jx_icmp_ge (tgt := 54) E dX5_status_36 (by decide) (fun c4 => ?_) (fun c4 => ?_)
            · skip
              refine jx_iload_n E 1 dX5_status_54 rfl ?_
              exact jx_iret E hr dX5_status_55 (by simp only [statusR]; rw [show k = 7 by omega, if_pos (by omega), if_pos (by omega)]) (by rw [if_pos (by omega)])
            · skip
              refine jx_iload_n E 1 dX5_status_39 rfl ?_
              refine jx_aload_n E 2 dX5_status_40 rfl ?_
              refine jx_get E f_X5 7 (v := .ref (a 49)) wx_obj (by decide) wf_X5_49 rfl dX5_status_41 ?_
              refine jx_iload_n E 0 dX5_status_44 rfl ?_
              refine jx_iald E (v := (x 4) (k : Int)) wx_taly (row0_at (by omega) (by omega)) (by omega) (by omega) (by decide) dX5_status_45 ?_
              refine jx_iadd E dX5_status_46 ?_
              refine jx_istore_n E dX5_status_47 (by decide) [(2, vI ((sumP (x 4) k) + ((x 4) (k : Int)))), (3, vI (k : Int)), (0, .ref (a 0)), (1, vI w)] rfl ?_
              refine jx_iinc E 1 dX5_status_48 rfl (by decide) [(3, vI ((k : Int) + 1)), (2, vI ((sumP (x 4) k) + ((x 4) (k : Int)))), (0, .ref (a 0)), (1, vI w)] rfl ?_
              refine jx_goto (tgt := 33) E dX5_status_51 (by decide) ?_
              exact ih (k + 1) (by omega) (by omega)
        exact LP33 8 0 (by omega) (by omega)
      · skip
        refine jx_aload_n E 0 dX5_status_22 rfl ?_
        refine jx_get E f_X5 7 (v := .ref (a 49)) wx_obj (by decide) wf_X5_49 rfl dX5_status_23 ?_
        refine jx_iload_n E 1 dX5_status_26 rfl ?_
        refine jx_iald E (v := (x 4) w) wx_taly (row0_at (by omega) (by omega)) (by omega) (by omega) (by decide) dX5_status_27 ?_
        exact jx_iret E hr dX5_status_28 (by simp only [statusR]; rw [if_pos (by omega), if_neg (by omega)]) (by rw [if_pos (by omega)])
    · skip
      refine jx_aload_n E 0 dX5_status_11 rfl ?_
      refine jx_ldc E wc_X5_53 dX5_status_12 ?_
      refine jx_callVi E [vI (-1000000001)] [] (c_X5_found l G a x (f := (-1000000001)) (by omega)) mb_X5_found mv_X5_found wl_X5_54 f_X5 wx_obj dX5_status_14 ?_
      exact jx_iret E hr dX5_status_17 (by simp only [statusR]; rw [if_neg (by omega)]) (by rw [if_neg (by omega)])
