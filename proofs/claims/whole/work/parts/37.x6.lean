/-! 37.x6: laid by the walker out of specX6 -/
set_option maxHeartbeats 4000000 in
theorem c_X5_on (l : Launch) (G : GT) (a : Nat → Nat) (x : MS) {n w : Int} (h1 : VT 99999 (x 0)) (h2 : inR n) (h3 : inR w) : CtE l G yX5_on cX5_on 3 (some .int) 6 [.ref (a 0), vI n, vI w] (wsX G a x) (onR (x 0) n w) (fun u9 => wsX G a (setc (endX x (onR (x 0) n w)) 1 u9)) := by
  obtain ⟨v0, v1, v2, v3, v4, v5, v6, v7⟩ := id h1
  unfold inR at h2 h3
  have hd := VT_days h1 n.toNat
  have hd1 := hd.2.1
  have hd4 := days_4 h1 n.toNat
  have hnn := noise_in hd
  have hoo := offsN_in (t := daysP n.toNat (x 0)) (daysP n.toNat (x 0) 4).toNat (fun i a b => (hd.2.2.2.2.2.2.2 i a (by omega)).2.2.1)
  refine CtE.of (by decide) (Nat.le_of_ble_eq_true rfl) ?_
  intro p e s m args below meth c A E hr
  refine jx_lv (lv' := [(0, .ref (a 0)), (1, vI n), (2, vI w)]) [0, 1, 2] rfl ?_
  refine jx_iload_n E 1 dX5_on_0 rfl ?_
  refine jx_callSi E [vI n] [] (c_X5_isAhead l G (wsX G a x) (n := n) (by unfold inR; omega)) mb_X5_isAhead ms_X5_isAhead wl_X5_163 dX5_on_1 ?_
  refine jx_if_eq (tgt := 16) E dX5_on_4 (by decide) (fun c1 => ?_) (fun c1 => ?_)
  · skip
    refine jx_aload_n E 0 dX5_on_16 rfl ?_
    refine jx_ldc E wc_X5_53 dX5_on_17 ?_
    refine jx_callVi E [vI (-1000000001)] [] (c_X5_found l G a x (f := (-1000000001)) (by omega)) mb_X5_found mv_X5_found wl_X5_54 f_X5 wx_obj dX5_on_19 ?_
    exact jx_iretE E hr dX5_on_22 (by have hV : ¬ (v400 n ∧ 0 ≤ w ∧ w ≤ 2) := (by omega); simp only [onR, if_neg hV]) (x 1) (by have hV : ¬ (v400 n ∧ 0 ≤ w ∧ w ≤ 2) := (by omega); simp only [onR, if_neg hV]; rw [endX_f (by decide)]; exact congrArg (wsX G a) (setc_self _ 1).symm)
  · skip
    refine jx_iload_n E 2 dX5_on_7 rfl ?_
    refine jx_if_lt (tgt := 16) E dX5_on_8 (by decide) (fun c2 => ?_) (fun c2 => ?_)
    · skip
      refine jx_aload_n E 0 dX5_on_16 rfl ?_
      refine jx_ldc E wc_X5_53 dX5_on_17 ?_
      refine jx_callVi E [vI (-1000000001)] [] (c_X5_found l G a x (f := (-1000000001)) (by omega)) mb_X5_found mv_X5_found wl_X5_54 f_X5 wx_obj dX5_on_19 ?_
      exact jx_iretE E hr dX5_on_22 (by have hV : ¬ (v400 n ∧ 0 ≤ w ∧ w ≤ 2) := (by omega); simp only [onR, if_neg hV]) (x 1) (by have hV : ¬ (v400 n ∧ 0 ≤ w ∧ w ≤ 2) := (by omega); simp only [onR, if_neg hV]; rw [endX_f (by decide)]; exact congrArg (wsX G a) (setc_self _ 1).symm)
    · skip
      refine jx_iload_n E 2 dX5_on_11 rfl ?_
      refine jx_iconst E dX5_on_12 ?_
      refine jx_icmp_le (tgt := 23) E dX5_on_13 (by decide) (fun c3 => ?_) (fun c3 => ?_)
      · skip
        refine jx_aload_n E 0 dX5_on_23 rfl ?_
        refine jx_get E f_X5 1 (v := .ref (a 13)) wx_obj (by decide) wf_X5_16 rfl dX5_on_24 ?_
        refine jx_aload_n E 0 dX5_on_27 rfl ?_
        refine jx_get E f_X5 0 (v := .ref (a 1)) wx_obj (by decide) wf_X5_10 rfl dX5_on_28 ?_
        refine jx_callVv E [.ref (a 1)] [] (c_X4_become_10 l G a x  v4) mb_X4_become mv_X4_become wl_X5_166 f_X4 (wx_town (j := 1) (by decide)) dX5_on_31 ?_
        have hE : EQ (hdP (x 1) (x 0) (21 + 5 * (x 0) 4)) (x 0) := EQ.hd v4
        have hVt := hE.snd h1
        have hdE := hE.days h1 n.toNat
        have hdt := hdE.snd hd
        have g1 := hdE.lo (k := 1) (by decide) (by decide)
        have g2 := hdE.noise
        have g4 := hdE.f4
        have g3 : offsN (daysP n.toNat (hdP (x 1) (x 0) (21 + 5 * (x 0) 4))) (daysP n.toNat (hdP (x 1) (x 0) (21 + 5 * (x 0) 4)) 4).toNat = offsN (daysP n.toNat (x 0)) (daysP n.toNat (x 0) 4).toNat := by rw [g4]; exact hdE.offs _ (by omega)
        refine jx_aload_n E 0 dX5_on_34 rfl ?_
        refine jx_get E f_X5 1 (v := .ref (a 13)) wx_obj (by decide) wf_X5_16 rfl dX5_on_35 ?_
        refine jx_iload_n E 1 dX5_on_38 rfl ?_
        refine jx_callVv E [vI n] [] (c_X4_passDays_1 l G a (setc x 1 (hdP (x 1) (x 0) (21 + 5 * (x 0) 4))) (n := n) (VT_up hVt (by omega)) (by omega)) mb_X4_passDays mv_X4_passDays wl_X5_159 f_X4 (wx_town (j := 1) (by decide)) dX5_on_39 ?_
        refine jx_eq (ws' := wsX G a (setc x 1 (daysP n.toNat (hdP (x 1) (x 0) (21 + 5 * (x 0) 4))))) (congrArg (wsX G a) (by first | rfl | (rw [setc_setc]; rfl) | exact setc_in _ _ _ _ (by decide) | exact setc_in2 _ _ _ _ _ (by decide) (by decide) | (simp only [setc_setc, setc_at]; done) | (simp only [setc_setc, setc_at]; rfl) | (funext d; simp only [setc_app]; (repeat' split) <;> first | rfl | omega))) ?_
        refine jx_iload_n E 2 dX5_on_42 rfl ?_
        refine jx_if_ne (tgt := 54) E dX5_on_43 (by decide) (fun c4 => ?_) (fun c4 => ?_)
        · skip
          refine jx_iload_n E 2 dX5_on_54 rfl ?_
          refine jx_iconst E dX5_on_55 ?_
          refine jx_icmp_ne (tgt := 69) E dX5_on_56 (by decide) (fun c5 => ?_) (fun c5 => ?_)
          · skip
            refine jx_aload_n E 0 dX5_on_69 rfl ?_
            refine jx_get E f_X5 1 (v := .ref (a 13)) wx_obj (by decide) wf_X5_16 rfl dX5_on_70 ?_
            refine jx_callVi E [] [] (c_X4_setOfOff_1 l G a (setc x 1 (daysP n.toNat (hdP (x 1) (x 0) (21 + 5 * (x 0) 4))))  (VT_up hdt (by omega))) mb_X4_setOfOff mv_X4_setOfOff wl_X5_81 f_X4 (wx_town (j := 1) (by decide)) dX5_on_73 ?_
            refine jx_st (st' := [vI (offsN (daysP n.toNat (hdP (x 1) (x 0) (21 + 5 * (x 0) 4))) ((daysP n.toNat (hdP (x 1) (x 0) (21 + 5 * (x 0) 4))) 4).toNat)]) (by first | rfl | (simp only [setc_at]; done) | (simp only [setc_at]; rfl)) ?_
            exact jx_iretE E hr dX5_on_76 (by have hV : v400 n ∧ 0 ≤ w ∧ w ≤ 2 := (by omega); simp only [onR, if_pos hV]; simp only [onV]; omega) (daysP n.toNat (hdP (x 1) (x 0) (21 + 5 * (x 0) 4))) (by have hV : v400 n ∧ 0 ≤ w ∧ w ≤ 2 := (by omega); have e : (onR (x 0) n w) = offsN (daysP n.toNat (hdP (x 1) (x 0) (21 + 5 * (x 0) 4))) ((daysP n.toNat (hdP (x 1) (x 0) (21 + 5 * (x 0) 4))) 4).toNat := (by simp only [onR, if_pos hV]; simp only [onV]; omega); rw [e, endX_n (by omega)])
          · skip
            refine jx_aload_n E 0 dX5_on_59 rfl ?_
            refine jx_get E f_X5 1 (v := .ref (a 13)) wx_obj (by decide) wf_X5_16 rfl dX5_on_60 ?_
            refine jx_callVi E [] [] (c_X4_noise_1 l G a (setc x 1 (daysP n.toNat (hdP (x 1) (x 0) (21 + 5 * (x 0) 4))))  (VT_up hdt (by omega))) mb_X4_noise mv_X4_noise wl_X5_84 f_X4 (wx_town (j := 1) (by decide)) dX5_on_63 ?_
            refine jx_st (st' := [vI (noiseP (daysP n.toNat (hdP (x 1) (x 0) (21 + 5 * (x 0) 4))))]) (by first | rfl | (simp only [setc_at]; done) | (simp only [setc_at]; rfl)) ?_
            refine jx_goto (tgt := 76) E dX5_on_66 (by decide) ?_
            exact jx_iretE E hr dX5_on_76 (by have hV : v400 n ∧ 0 ≤ w ∧ w ≤ 2 := (by omega); simp only [onR, if_pos hV]; simp only [onV]; omega) (daysP n.toNat (hdP (x 1) (x 0) (21 + 5 * (x 0) 4))) (by have hV : v400 n ∧ 0 ≤ w ∧ w ≤ 2 := (by omega); have e : (onR (x 0) n w) = noiseP (daysP n.toNat (hdP (x 1) (x 0) (21 + 5 * (x 0) 4))) := (by simp only [onR, if_pos hV]; simp only [onV]; omega); rw [e, endX_n (by omega)])
        · skip
          refine jx_aload_n E 0 dX5_on_46 rfl ?_
          refine jx_get E f_X5 1 (v := .ref (a 13)) wx_obj (by decide) wf_X5_16 rfl dX5_on_47 ?_
          refine jx_get E f_X4 1 (v := vI ((daysP n.toNat (hdP (x 1) (x 0) (21 + 5 * (x 0) 4))) 1)) (wx_town (j := 1) (by decide)) (by decide) wf_X5_58 (by first | rfl | (simp only [setc_at, List.getElem?_cons_zero, List.getElem?_cons_succ]; done) | (simp [setc_at]; done)) dX5_on_50 ?_
          exact jx_iretE E hr dX5_on_53 (by have hV : v400 n ∧ 0 ≤ w ∧ w ≤ 2 := (by omega); simp only [onR, if_pos hV]; simp only [onV]; omega) (daysP n.toNat (hdP (x 1) (x 0) (21 + 5 * (x 0) 4))) (by have hV : v400 n ∧ 0 ≤ w ∧ w ≤ 2 := (by omega); have e : (onR (x 0) n w) = (daysP n.toNat (hdP (x 1) (x 0) (21 + 5 * (x 0) 4))) 1 := (by simp only [onR, if_pos hV]; simp only [onV]; omega); rw [e, endX_n (by omega)])
      · skip
        refine jx_aload_n E 0 dX5_on_16 rfl ?_
        refine jx_ldc E wc_X5_53 dX5_on_17 ?_
        refine jx_callVi E [vI (-1000000001)] [] (c_X5_found l G a x (f := (-1000000001)) (by omega)) mb_X5_found mv_X5_found wl_X5_54 f_X5 wx_obj dX5_on_19 ?_
        exact jx_iretE E hr dX5_on_22 (by have hV : ¬ (v400 n ∧ 0 ≤ w ∧ w ≤ 2) := (by omega); simp only [onR, if_neg hV]) (x 1) (by have hV : ¬ (v400 n ∧ 0 ≤ w ∧ w ≤ 2) := (by omega); simp only [onR, if_neg hV]; rw [endX_f (by decide)]; exact congrArg (wsX G a) (setc_self _ 1).symm)
set_option maxHeartbeats 4000000 in
theorem c_X5_then (l : Launch) (G : GT) (a : Nat → Nat) (x : MS) {f n w : Int} (h1 : VT 99999 (x 0)) (h2 : inR f) (h3 : inR n) (h4 : inR w) : CtE l G yX5_then cX5_then 5 (some .int) 6 [.ref (a 0), vI f, vI n, vI w] (wsX G a x) (thenR (x 0) f n w) (fun u9 => wsX G a (setc (endX x (thenR (x 0) f n w)) 1 u9)) := by
  obtain ⟨v0, v1, v2, v3, v4, v5, v6, v7⟩ := id h1
  unfold inR at h2 h3 h4
  have hd := VT_days h1 n.toNat
  have hd4 := days_4 h1 n.toNat
  refine CtE.of (by decide) (Nat.le_of_ble_eq_true rfl) ?_
  intro p e s m args below meth c A E hr
  refine jx_lv (lv' := [(0, .ref (a 0)), (1, vI f), (2, vI n), (3, vI w)]) [0, 1, 2, 3] rfl ?_
  refine jx_aload_n E 0 dX5_then_0 rfl ?_
  refine jx_get E f_X5 0 (v := .ref (a 1)) wx_obj (by decide) wf_X5_10 rfl dX5_then_1 ?_
  refine jx_iload_n E 1 dX5_then_4 rfl ?_
  refine jx_callVi E [vI f] [] (c_X4_has_0 l G a x (f := f) (by unfold inR; omega) v4) mb_X4_has mv_X4_has wl_X5_101 f_X4 (wx_town (j := 0) (by decide)) dX5_then_5 ?_
  refine jx_if_eq (tgt := 27) E dX5_then_8 (by decide) (fun c1 => ?_) (fun c1 => ?_)
  · skip
    refine jx_aload_n E 0 dX5_then_27 rfl ?_
    refine jx_ldc E wc_X5_53 dX5_then_28 ?_
    refine jx_callVi E [vI (-1000000001)] [] (c_X5_found l G a x (f := (-1000000001)) (by omega)) mb_X5_found mv_X5_found wl_X5_54 f_X5 wx_obj dX5_then_30 ?_
    exact jx_iretE E hr dX5_then_33 (by have hV : ¬ (vFou (x 0) f ∧ v400 n ∧ 0 ≤ w ∧ w ≤ 2) := (by omega); simp only [thenR, if_neg hV]) (x 1) (by have hV : ¬ (vFou (x 0) f ∧ v400 n ∧ 0 ≤ w ∧ w ≤ 2) := (by omega); simp only [thenR, if_neg hV]; rw [endX_f (by decide)]; exact congrArg (wsX G a) (setc_self _ 1).symm)
  · skip
    refine jx_iload_n E 2 dX5_then_11 rfl ?_
    refine jx_callSi E [vI n] [] (c_X5_isAhead l G (wsX G a x) (n := n) (by unfold inR; omega)) mb_X5_isAhead ms_X5_isAhead wl_X5_163 dX5_then_12 ?_
    refine jx_if_eq (tgt := 27) E dX5_then_15 (by decide) (fun c2 => ?_) (fun c2 => ?_)
    · skip
      refine jx_aload_n E 0 dX5_then_27 rfl ?_
      refine jx_ldc E wc_X5_53 dX5_then_28 ?_
      refine jx_callVi E [vI (-1000000001)] [] (c_X5_found l G a x (f := (-1000000001)) (by omega)) mb_X5_found mv_X5_found wl_X5_54 f_X5 wx_obj dX5_then_30 ?_
      exact jx_iretE E hr dX5_then_33 (by have hV : ¬ (vFou (x 0) f ∧ v400 n ∧ 0 ≤ w ∧ w ≤ 2) := (by omega); simp only [thenR, if_neg hV]) (x 1) (by have hV : ¬ (vFou (x 0) f ∧ v400 n ∧ 0 ≤ w ∧ w ≤ 2) := (by omega); simp only [thenR, if_neg hV]; rw [endX_f (by decide)]; exact congrArg (wsX G a) (setc_self _ 1).symm)
    · skip
      refine jx_iload_n E 3 dX5_then_18 rfl ?_
      refine jx_if_lt (tgt := 27) E dX5_then_19 (by decide) (fun c3 => ?_) (fun c3 => ?_)
      · skip
        refine jx_aload_n E 0 dX5_then_27 rfl ?_
        refine jx_ldc E wc_X5_53 dX5_then_28 ?_
        refine jx_callVi E [vI (-1000000001)] [] (c_X5_found l G a x (f := (-1000000001)) (by omega)) mb_X5_found mv_X5_found wl_X5_54 f_X5 wx_obj dX5_then_30 ?_
        exact jx_iretE E hr dX5_then_33 (by have hV : ¬ (vFou (x 0) f ∧ v400 n ∧ 0 ≤ w ∧ w ≤ 2) := (by omega); simp only [thenR, if_neg hV]) (x 1) (by have hV : ¬ (vFou (x 0) f ∧ v400 n ∧ 0 ≤ w ∧ w ≤ 2) := (by omega); simp only [thenR, if_neg hV]; rw [endX_f (by decide)]; exact congrArg (wsX G a) (setc_self _ 1).symm)
      · skip
        refine jx_iload_n E 3 dX5_then_22 rfl ?_
        refine jx_iconst E dX5_then_23 ?_
        refine jx_icmp_le (tgt := 34) E dX5_then_24 (by decide) (fun c4 => ?_) (fun c4 => ?_)
        · skip
          refine jx_aload_n E 0 dX5_then_34 rfl ?_
          refine jx_get E f_X5 1 (v := .ref (a 13)) wx_obj (by decide) wf_X5_16 rfl dX5_then_35 ?_
          refine jx_aload_n E 0 dX5_then_38 rfl ?_
          refine jx_get E f_X5 0 (v := .ref (a 1)) wx_obj (by decide) wf_X5_10 rfl dX5_then_39 ?_
          refine jx_callVv E [.ref (a 1)] [] (c_X4_become_10 l G a x  v4) mb_X4_become mv_X4_become wl_X5_166 f_X4 (wx_town (j := 1) (by decide)) dX5_then_42 ?_
          have hE : EQ (hdP (x 1) (x 0) (21 + 5 * (x 0) 4)) (x 0) := EQ.hd v4
          have hVt := hE.snd h1
          have hdE := hE.days h1 n.toNat
          have gq : ∀ g, 0 ≤ g ∧ g ≤ 4 → daysP n.toNat (hdP (x 1) (x 0) (21 + 5 * (x 0) 4)) (21 + 5 * f + g) = daysP n.toNat (x 0) (21 + 5 * f + g) := fun g hg => hdE.fo (by rw [hd4]; omega) hg
          obtain ⟨a1, a2, a3, a4, a5⟩ := (hdE.snd hd).2.2.2.2.2.2.2 f (by omega) (by rw [hdE.f4, hd4]; omega)
          refine jx_aload_n E 0 dX5_then_45 rfl ?_
          refine jx_get E f_X5 1 (v := .ref (a 13)) wx_obj (by decide) wf_X5_16 rfl dX5_then_46 ?_
          refine jx_iload_n E 2 dX5_then_49 rfl ?_
          refine jx_callVv E [vI n] [] (c_X4_passDays_1 l G a (setc x 1 (hdP (x 1) (x 0) (21 + 5 * (x 0) 4))) (n := n) (VT_up hVt (by omega)) (by omega)) mb_X4_passDays mv_X4_passDays wl_X5_159 f_X4 (wx_town (j := 1) (by decide)) dX5_then_50 ?_
          refine jx_eq (ws' := wsX G a (setc x 1 (daysP n.toNat (hdP (x 1) (x 0) (21 + 5 * (x 0) 4))))) (congrArg (wsX G a) (by first | rfl | (rw [setc_setc]; rfl) | exact setc_in _ _ _ _ (by decide) | exact setc_in2 _ _ _ _ _ (by decide) (by decide) | (simp only [setc_setc, setc_at]; done) | (simp only [setc_setc, setc_at]; rfl) | (funext d; simp only [setc_app]; (repeat' split) <;> first | rfl | omega))) ?_
          refine jx_aload_n E 0 dX5_then_53 rfl ?_
          refine jx_get E f_X5 1 (v := .ref (a 13)) wx_obj (by decide) wf_X5_16 rfl dX5_then_54 ?_
          refine jx_get E f_X4 6 (v := .ref (a 16)) (wx_town (j := 1) (by decide)) (by decide) wf_X5_104 rfl dX5_then_57 ?_
          refine jx_iload_n E 1 dX5_then_60 rfl ?_
          refine jx_aald E 2 (y := a (5 + 12 * 1 + f.toNat)) (wx_row (j := 1) (by decide)) rfl rfl (by omega) (by omega) (by decide) dX5_then_61 ?_
          refine jx_astore E dX5_then_62 (by decide) [(4, .ref (a (5 + 12 * 1 + f.toNat))), (0, .ref (a 0)), (1, vI f), (2, vI n), (3, vI w)] rfl ?_
          refine jx_iload_n E 4 dX5_then_64 rfl ?_
          refine jx_if_ne (tgt := 74) E dX5_then_65 (by decide) (fun c5 => ?_) (fun c5 => ?_)
          · skip
            refine jx_iload_n E 4 dX5_then_74 rfl ?_
            refine jx_iconst E dX5_then_75 ?_
            refine jx_icmp_ne (tgt := 87) E dX5_then_76 (by decide) (fun c6 => ?_) (fun c6 => ?_)
            · skip
              refine jx_aload E 0 dX5_then_87 rfl ?_
              refine jx_get E f_X0 4 (v := vI ((daysP n.toNat (hdP (x 1) (x 0) (21 + 5 * (x 0) 4))) (21 + 5 * f + 4))) (wx_fou (j := 1) (by decide) (by omega) (by omega)) (by decide) wf_X5_126 (by first | rfl | (simp only [setc_at, List.getElem?_cons_zero, List.getElem?_cons_succ]; done) | (simp [setc_at]; done)) dX5_then_89 ?_
              exact jx_iretE E hr dX5_then_92 (by have hV : vFou (x 0) f ∧ v400 n ∧ 0 ≤ w ∧ w ≤ 2 := (by omega); simp only [thenR, if_pos hV]; rcases (show w = 0 ∨ w = 1 ∨ w = 2 by omega) with e | e | e <;> subst e <;> first | (exfalso; omega) | exact gq 2 (by omega) | exact gq 3 (by omega) | exact gq 4 (by omega) | exact (gq 2 (by omega)).symm | exact (gq 3 (by omega)).symm | exact (gq 4 (by omega)).symm) (daysP n.toNat (hdP (x 1) (x 0) (21 + 5 * (x 0) 4))) (by have hV : vFou (x 0) f ∧ v400 n ∧ 0 ≤ w ∧ w ≤ 2 := (by omega); have e : (thenR (x 0) f n w) = (daysP n.toNat (hdP (x 1) (x 0) (21 + 5 * (x 0) 4))) (21 + 5 * f + 4) := (by simp only [thenR, if_pos hV]; rcases (show w = 0 ∨ w = 1 ∨ w = 2 by omega) with e | e | e <;> subst e <;> first | (exfalso; omega) | exact gq 2 (by omega) | exact gq 3 (by omega) | exact gq 4 (by omega) | exact (gq 2 (by omega)).symm | exact (gq 3 (by omega)).symm | exact (gq 4 (by omega)).symm); rw [e, endX_n (by omega)])
            · skip
              refine jx_aload E 0 dX5_then_79 rfl ?_
              refine jx_get E f_X0 3 (v := vI ((daysP n.toNat (hdP (x 1) (x 0) (21 + 5 * (x 0) 4))) (21 + 5 * f + 3))) (wx_fou (j := 1) (by decide) (by omega) (by omega)) (by decide) wf_X5_123 (by first | rfl | (simp only [setc_at, List.getElem?_cons_zero, List.getElem?_cons_succ]; done) | (simp [setc_at]; done)) dX5_then_81 ?_
              refine jx_goto (tgt := 92) E dX5_then_84 (by decide) ?_
              exact jx_iretE E hr dX5_then_92 (by have hV : vFou (x 0) f ∧ v400 n ∧ 0 ≤ w ∧ w ≤ 2 := (by omega); simp only [thenR, if_pos hV]; rcases (show w = 0 ∨ w = 1 ∨ w = 2 by omega) with e | e | e <;> subst e <;> first | (exfalso; omega) | exact gq 2 (by omega) | exact gq 3 (by omega) | exact gq 4 (by omega) | exact (gq 2 (by omega)).symm | exact (gq 3 (by omega)).symm | exact (gq 4 (by omega)).symm) (daysP n.toNat (hdP (x 1) (x 0) (21 + 5 * (x 0) 4))) (by have hV : vFou (x 0) f ∧ v400 n ∧ 0 ≤ w ∧ w ≤ 2 := (by omega); have e : (thenR (x 0) f n w) = (daysP n.toNat (hdP (x 1) (x 0) (21 + 5 * (x 0) 4))) (21 + 5 * f + 3) := (by simp only [thenR, if_pos hV]; rcases (show w = 0 ∨ w = 1 ∨ w = 2 by omega) with e | e | e <;> subst e <;> first | (exfalso; omega) | exact gq 2 (by omega) | exact gq 3 (by omega) | exact gq 4 (by omega) | exact (gq 2 (by omega)).symm | exact (gq 3 (by omega)).symm | exact (gq 4 (by omega)).symm); rw [e, endX_n (by omega)])
          · skip
            refine jx_aload E 0 dX5_then_68 rfl ?_
            refine jx_get E f_X0 2 (v := vI ((daysP n.toNat (hdP (x 1) (x 0) (21 + 5 * (x 0) 4))) (21 + 5 * f + 2))) (wx_fou (j := 1) (by decide) (by omega) (by omega)) (by decide) wf_X5_120 (by first | rfl | (simp only [setc_at, List.getElem?_cons_zero, List.getElem?_cons_succ]; done) | (simp [setc_at]; done)) dX5_then_70 ?_
            exact jx_iretE E hr dX5_then_73 (by have hV : vFou (x 0) f ∧ v400 n ∧ 0 ≤ w ∧ w ≤ 2 := (by omega); simp only [thenR, if_pos hV]; rcases (show w = 0 ∨ w = 1 ∨ w = 2 by omega) with e | e | e <;> subst e <;> first | (exfalso; omega) | exact gq 2 (by omega) | exact gq 3 (by omega) | exact gq 4 (by omega) | exact (gq 2 (by omega)).symm | exact (gq 3 (by omega)).symm | exact (gq 4 (by omega)).symm) (daysP n.toNat (hdP (x 1) (x 0) (21 + 5 * (x 0) 4))) (by have hV : vFou (x 0) f ∧ v400 n ∧ 0 ≤ w ∧ w ≤ 2 := (by omega); have e : (thenR (x 0) f n w) = (daysP n.toNat (hdP (x 1) (x 0) (21 + 5 * (x 0) 4))) (21 + 5 * f + 2) := (by simp only [thenR, if_pos hV]; rcases (show w = 0 ∨ w = 1 ∨ w = 2 by omega) with e | e | e <;> subst e <;> first | (exfalso; omega) | exact gq 2 (by omega) | exact gq 3 (by omega) | exact gq 4 (by omega) | exact (gq 2 (by omega)).symm | exact (gq 3 (by omega)).symm | exact (gq 4 (by omega)).symm); rw [e, endX_n (by omega)])
        · skip
          refine jx_aload_n E 0 dX5_then_27 rfl ?_
          refine jx_ldc E wc_X5_53 dX5_then_28 ?_
          refine jx_callVi E [vI (-1000000001)] [] (c_X5_found l G a x (f := (-1000000001)) (by omega)) mb_X5_found mv_X5_found wl_X5_54 f_X5 wx_obj dX5_then_30 ?_
          exact jx_iretE E hr dX5_then_33 (by have hV : ¬ (vFou (x 0) f ∧ v400 n ∧ 0 ≤ w ∧ w ≤ 2) := (by omega); simp only [thenR, if_neg hV]) (x 1) (by have hV : ¬ (vFou (x 0) f ∧ v400 n ∧ 0 ≤ w ∧ w ≤ 2) := (by omega); simp only [thenR, if_neg hV]; rw [endX_f (by decide)]; exact congrArg (wsX G a) (setc_self _ 1).symm)
set_option maxHeartbeats 4000000 in
theorem c_X5_falls (l : Launch) (G : GT) (a : Nat → Nat) (x : MS) {v : Int} (h1 : VT 99999 (x 0)) (h2 : inR v) : CtE l G yX5_falls cX5_falls 3 (some .int) 5 [.ref (a 0), vI v] (wsX G a x) (fallsR (x 0) v) (fun u9 => wsX G a (setc (endX x (fallsR (x 0) v)) 1 u9)) := by
  obtain ⟨v0, v1, v2, v3, v4, v5, v6, v7⟩ := id h1
  unfold inR at h2
  refine CtE.of (by decide) (Nat.le_of_ble_eq_true rfl) ?_
  intro p e s m args below meth c A E hr
  refine jx_lv (lv' := [(0, .ref (a 0)), (1, vI v)]) [0, 1] rfl ?_
  refine jx_iload_n E 1 dX5_falls_0 rfl ?_
  refine jx_if_lt (tgt := 11) E dX5_falls_1 (by decide) (fun c1 => ?_) (fun c1 => ?_)
  · skip
    refine jx_aload_n E 0 dX5_falls_11 rfl ?_
    refine jx_ldc E wc_X5_53 dX5_falls_12 ?_
    refine jx_callVi E [vI (-1000000001)] [] (c_X5_found l G a x (f := (-1000000001)) (by omega)) mb_X5_found mv_X5_found wl_X5_54 f_X5 wx_obj dX5_falls_14 ?_
    exact jx_iretE E hr dX5_falls_17 (by have hV : ¬ (0 ≤ v ∧ v ≤ 9999) := (by omega); simp only [fallsR, if_neg hV]) (x 1) (by have hV : ¬ (0 ≤ v ∧ v ≤ 9999) := (by omega); simp only [fallsR, if_neg hV]; rw [endX_f (by decide)]; exact congrArg (wsX G a) (setc_self _ 1).symm)
  · skip
    refine jx_iload_n E 1 dX5_falls_4 rfl ?_
    refine jx_sipush E dX5_falls_5 ?_
    refine jx_icmp_le (tgt := 18) E dX5_falls_8 (by decide) (fun c2 => ?_) (fun c2 => ?_)
    · skip
      refine jx_aload_n E 0 dX5_falls_18 rfl ?_
      refine jx_get E f_X5 1 (v := .ref (a 13)) wx_obj (by decide) wf_X5_16 rfl dX5_falls_19 ?_
      refine jx_aload_n E 0 dX5_falls_22 rfl ?_
      refine jx_get E f_X5 0 (v := .ref (a 1)) wx_obj (by decide) wf_X5_10 rfl dX5_falls_23 ?_
      refine jx_callVv E [.ref (a 1)] [] (c_X4_become_10 l G a x  v4) mb_X4_become mv_X4_become wl_X5_166 f_X4 (wx_town (j := 1) (by decide)) dX5_falls_26 ?_
      have hE : EQ (hdP (x 1) (x 0) (21 + 5 * (x 0) 4)) (x 0) := EQ.hd v4
      have hVt := hE.snd h1
      refine jx_iconst E dX5_falls_29 ?_
      refine jx_istore_n E dX5_falls_30 (by decide) [(2, vI 0), (0, .ref (a 0)), (1, vI v)] rfl ?_
      have LP31 : ∀ (n2 : Nat) (k : Nat) (T : Int → Int), (k ≤ 401) → (k < n2) → (VT (100400 - k) T) → (fallsF v k T = fallsF v 401 (x 0)) → JX p l e (rmL 5) s m args below meth c 3 G A 0 0 (QE below args s G A (fallsR (x 0) v) (fun u9 => wsX G a (setc (endX x (fallsR (x 0) v)) 1 u9))) (wsX G a (setc x 1 T)) 31 [(2, vI (401 - (k : Int))), (0, .ref (a 0)), (1, vI v)] [] := by
        intro n2
        induction n2 with
        | zero => intro k T q1 q2 hT hQ; exfalso; omega
        | succ n2 ih =>
          intro k T q1 q2 hT hQ
          have hT1 := hT.2.1
          refine jx_iload_n E 0 dX5_falls_31 rfl ?_
          refine jx_sipush E dX5_falls_32 ?_
          refine jx_icmp_gt (tgt := 64) E dX5_falls_35 (by decide) (fun c3 => ?_) (fun c3 => ?_)
          · skip
            refine jx_aload_n E 1 dX5_falls_64 rfl ?_
            refine jx_ldc E wc_X5_153 dX5_falls_65 ?_
            refine jx_callVi E [vI (-1000000004)] [] (c_X5_found l G a (setc x 1 T) (f := (-1000000004)) (by omega)) mb_X5_found mv_X5_found wl_X5_54 f_X5 wx_obj dX5_falls_67 ?_
            refine jx_st (st' := [vI (-1000000004)]) (by first | rfl | (simp only [setc_at]; done) | (simp only [setc_at]; rfl)) ?_
            exact jx_iretE E hr dX5_falls_70 (by have hV : 0 ≤ v ∧ v ≤ 9999 := (by omega); simp only [fallsR, if_pos hV]; rw [← hQ]; rcases (show k = 0 ∨ ∃ k', k = k' + 1 from by rcases k with _ | k'; exact Or.inl rfl; exact Or.inr ⟨k', rfl⟩) with e | ⟨k', e⟩ <;> subst e <;> simp only [fallsF, farR] <;> omega) (T) (by have hV : 0 ≤ v ∧ v ≤ 9999 := (by omega); have e : (fallsR (x 0) v) = (-1000000004) := (by simp only [fallsR, if_pos hV]; rw [← hQ]; rcases (show k = 0 ∨ ∃ k', k = k' + 1 from by rcases k with _ | k'; exact Or.inl rfl; exact Or.inr ⟨k', rfl⟩) with e | ⟨k', e⟩ <;> subst e <;> simp only [fallsF, farR] <;> omega); rw [e, endX_f (by decide)]; exact congrArg (wsX G a) (setc_comm _ _ _ (by decide)))
          · skip
            refine jx_aload_n E 1 dX5_falls_38 rfl ?_
            refine jx_get E f_X5 1 (v := .ref (a 13)) wx_obj (by decide) wf_X5_16 rfl dX5_falls_39 ?_
            refine jx_get E f_X4 1 (v := vI (T 1)) (wx_town (j := 1) (by decide)) (by decide) wf_X5_58 (by first | rfl | (simp only [setc_at, List.getElem?_cons_zero, List.getElem?_cons_succ]; done) | (simp [setc_at]; done)) dX5_falls_42 ?_
            refine jx_iload_n E 2 dX5_falls_45 rfl ?_
            refine jx_icmp_gt (tgt := 51) E dX5_falls_46 (by decide) (fun c4 => ?_) (fun c4 => ?_)
            · skip
              refine jx_aload_n E 1 dX5_falls_51 rfl ?_
              refine jx_get E f_X5 1 (v := .ref (a 13)) wx_obj (by decide) wf_X5_16 rfl dX5_falls_52 ?_
              refine jx_callVv E [] [] (c_X4_passDay_1 l G a (setc x 1 T)  (VT_up hT (by omega))) mb_X4_passDay mv_X4_passDay wl_X5_170 f_X4 (wx_town (j := 1) (by decide)) dX5_falls_55 ?_
              refine jx_eq (ws' := wsX G a (setc x 1 (dayP T))) (congrArg (wsX G a) (by first | rfl | (rw [setc_setc]; rfl) | exact setc_in _ _ _ _ (by decide) | exact setc_in2 _ _ _ _ _ (by decide) (by decide) | (simp only [setc_setc, setc_at]; done) | (simp only [setc_setc, setc_at]; rfl) | (funext d; simp only [setc_app]; (repeat' split) <;> first | rfl | omega))) ?_
              refine jx_iinc E 0 dX5_falls_58 rfl (by decide) [(2, vI (401 - (k : Int) + 1)), (0, .ref (a 0)), (1, vI v)] rfl ?_
              refine jx_goto (tgt := 31) E dX5_falls_61 (by decide) ?_
              obtain ⟨k', rfl⟩ : ∃ k', k = k' + 1 := ⟨k - 1, by omega⟩
              refine jx_lve (congrArg (fun z => [(2, vI z), (0, Value.ref (a 0)), (1, vI v)]) (show 401 - ((k' + 1 : Nat) : Int) + 1 = 401 - (k' : Int) by omega)) ?_
              exact ih k' (dayP T) (by omega) (by omega) (VT_up (VT_day hT) (by omega)) (by rw [← hQ, fallsF, if_neg (by omega)])
            · skip
              refine jx_iload_n E 0 dX5_falls_49 rfl ?_
              exact jx_iretE E hr dX5_falls_50 (by have hV : 0 ≤ v ∧ v ≤ 9999 := (by omega); simp only [fallsR, if_pos hV]; rw [← hQ]; rcases (show k = 0 ∨ ∃ k', k = k' + 1 from by rcases k with _ | k'; exact Or.inl rfl; exact Or.inr ⟨k', rfl⟩) with e | ⟨k', e⟩ <;> subst e <;> simp only [fallsF, farR] <;> omega) (T) (by have hV : 0 ≤ v ∧ v ≤ 9999 := (by omega); have e : (fallsR (x 0) v) = 401 - (k : Int) := (by simp only [fallsR, if_pos hV]; rw [← hQ]; rcases (show k = 0 ∨ ∃ k', k = k' + 1 from by rcases k with _ | k'; exact Or.inl rfl; exact Or.inr ⟨k', rfl⟩) with e | ⟨k', e⟩ <;> subst e <;> simp only [fallsF, farR] <;> omega); rw [e, endX_n (by omega)])
      exact LP31 402 401 _ (by omega) (by omega) (VT_up hVt (by omega)) (EQ_falls v 401 hE h1)
    · skip
      refine jx_aload_n E 0 dX5_falls_11 rfl ?_
      refine jx_ldc E wc_X5_53 dX5_falls_12 ?_
      refine jx_callVi E [vI (-1000000001)] [] (c_X5_found l G a x (f := (-1000000001)) (by omega)) mb_X5_found mv_X5_found wl_X5_54 f_X5 wx_obj dX5_falls_14 ?_
      exact jx_iretE E hr dX5_falls_17 (by have hV : ¬ (0 ≤ v ∧ v ≤ 9999) := (by omega); simp only [fallsR, if_neg hV]) (x 1) (by have hV : ¬ (0 ≤ v ∧ v ≤ 9999) := (by omega); simp only [fallsR, if_neg hV]; rw [endX_f (by decide)]; exact congrArg (wsX G a) (setc_self _ 1).symm)
set_option maxHeartbeats 4000000 in
theorem c_X5_quiet (l : Launch) (G : GT) (a : Nat → Nat) (x : MS) (h1 : VT 99999 (x 0)) : CtE l G yX5_quiet cX5_quiet 2 (some .int) 5 [.ref (a 0)] (wsX G a x) (quietR (x 0)) (fun u9 => wsX G a (setc (endX x (quietR (x 0))) 1 u9)) := by
  obtain ⟨v0, v1, v2, v3, v4, v5, v6, v7⟩ := id h1
  refine CtE.of (by decide) (Nat.le_of_ble_eq_true rfl) ?_
  intro p e s m args below meth c A E hr
  refine jx_lv (lv' := [(0, .ref (a 0))]) [0] rfl ?_
  refine jx_aload_n E 0 dX5_quiet_0 rfl ?_
  refine jx_get E f_X5 1 (v := .ref (a 13)) wx_obj (by decide) wf_X5_16 rfl dX5_quiet_1 ?_
  refine jx_aload_n E 0 dX5_quiet_4 rfl ?_
  refine jx_get E f_X5 0 (v := .ref (a 1)) wx_obj (by decide) wf_X5_10 rfl dX5_quiet_5 ?_
  refine jx_callVv E [.ref (a 1)] [] (c_X4_become_10 l G a x  v4) mb_X4_become mv_X4_become wl_X5_166 f_X4 (wx_town (j := 1) (by decide)) dX5_quiet_8 ?_
  have hE : EQ (hdP (x 1) (x 0) (21 + 5 * (x 0) 4)) (x 0) := EQ.hd v4
  have hVt := hE.snd h1
  refine jx_iconst E dX5_quiet_11 ?_
  refine jx_istore_n E dX5_quiet_12 (by decide) [(1, vI 0), (0, .ref (a 0))] rfl ?_
  have LP13 : ∀ (n2 : Nat) (k : Nat) (T : Int → Int), (k ≤ 401) → (k < n2) → (VT (100400 - k) T) → (quietF k T = quietF 401 (x 0)) → JX p l e (rmL 5) s m args below meth c 2 G A 0 0 (QE below args s G A (quietR (x 0)) (fun u9 => wsX G a (setc (endX x (quietR (x 0))) 1 u9))) (wsX G a (setc x 1 T)) 13 [(1, vI (401 - (k : Int))), (0, .ref (a 0))] [] := by
    intro n2
    induction n2 with
    | zero => intro k T q1 q2 hT hQ; exfalso; omega
    | succ n2 ih =>
      intro k T q1 q2 hT hQ
      have hTn := noise_in hT
      refine jx_iload_n E 0 dX5_quiet_13 rfl ?_
      refine jx_sipush E dX5_quiet_14 ?_
      refine jx_icmp_gt (tgt := 45) E dX5_quiet_17 (by decide) (fun c1 => ?_) (fun c1 => ?_)
      · skip
        refine jx_aload_n E 1 dX5_quiet_45 rfl ?_
        refine jx_ldc E wc_X5_153 dX5_quiet_46 ?_
        refine jx_callVi E [vI (-1000000004)] [] (c_X5_found l G a (setc x 1 T) (f := (-1000000004)) (by omega)) mb_X5_found mv_X5_found wl_X5_54 f_X5 wx_obj dX5_quiet_48 ?_
        refine jx_st (st' := [vI (-1000000004)]) (by first | rfl | (simp only [setc_at]; done) | (simp only [setc_at]; rfl)) ?_
        exact jx_iretE E hr dX5_quiet_51 (by simp only [quietR]; rw [← hQ]; rcases (show k = 0 ∨ ∃ k', k = k' + 1 from by rcases k with _ | k'; exact Or.inl rfl; exact Or.inr ⟨k', rfl⟩) with e | ⟨k', e⟩ <;> subst e <;> simp only [quietF, farR] <;> omega) (T) (by have e : (quietR (x 0)) = (-1000000004) := (by simp only [quietR]; rw [← hQ]; rcases (show k = 0 ∨ ∃ k', k = k' + 1 from by rcases k with _ | k'; exact Or.inl rfl; exact Or.inr ⟨k', rfl⟩) with e | ⟨k', e⟩ <;> subst e <;> simp only [quietF, farR] <;> omega); rw [e, endX_f (by decide)]; exact congrArg (wsX G a) (setc_comm _ _ _ (by decide)))
      · skip
        refine jx_aload_n E 1 dX5_quiet_20 rfl ?_
        refine jx_get E f_X5 1 (v := .ref (a 13)) wx_obj (by decide) wf_X5_16 rfl dX5_quiet_21 ?_
        refine jx_callVi E [] [] (c_X4_noise_1 l G a (setc x 1 T)  (VT_up hT (by omega))) mb_X4_noise mv_X4_noise wl_X5_84 f_X4 (wx_town (j := 1) (by decide)) dX5_quiet_24 ?_
        refine jx_st (st' := [vI (noiseP T)]) (by first | rfl | (simp only [setc_at]; done) | (simp only [setc_at]; rfl)) ?_
        refine jx_if_ne (tgt := 32) E dX5_quiet_27 (by decide) (fun c2 => ?_) (fun c2 => ?_)
        · skip
          refine jx_aload_n E 1 dX5_quiet_32 rfl ?_
          refine jx_get E f_X5 1 (v := .ref (a 13)) wx_obj (by decide) wf_X5_16 rfl dX5_quiet_33 ?_
          refine jx_callVv E [] [] (c_X4_passDay_1 l G a (setc x 1 T)  (VT_up hT (by omega))) mb_X4_passDay mv_X4_passDay wl_X5_170 f_X4 (wx_town (j := 1) (by decide)) dX5_quiet_36 ?_
          refine jx_eq (ws' := wsX G a (setc x 1 (dayP T))) (congrArg (wsX G a) (by first | rfl | (rw [setc_setc]; rfl) | exact setc_in _ _ _ _ (by decide) | exact setc_in2 _ _ _ _ _ (by decide) (by decide) | (simp only [setc_setc, setc_at]; done) | (simp only [setc_setc, setc_at]; rfl) | (funext d; simp only [setc_app]; (repeat' split) <;> first | rfl | omega))) ?_
          refine jx_iinc E 0 dX5_quiet_39 rfl (by decide) [(1, vI (401 - (k : Int) + 1)), (0, .ref (a 0))] rfl ?_
          refine jx_goto (tgt := 13) E dX5_quiet_42 (by decide) ?_
          obtain ⟨k', rfl⟩ : ∃ k', k = k' + 1 := ⟨k - 1, by omega⟩
          refine jx_lve (congrArg (fun z => [(1, vI z), (0, Value.ref (a 0))]) (show 401 - ((k' + 1 : Nat) : Int) + 1 = 401 - (k' : Int) by omega)) ?_
          exact ih k' (dayP T) (by omega) (by omega) (VT_up (VT_day hT) (by omega)) (by rw [← hQ, quietF, if_neg (by omega)])
        · skip
          refine jx_iload_n E 0 dX5_quiet_30 rfl ?_
          exact jx_iretE E hr dX5_quiet_31 (by simp only [quietR]; rw [← hQ]; rcases (show k = 0 ∨ ∃ k', k = k' + 1 from by rcases k with _ | k'; exact Or.inl rfl; exact Or.inr ⟨k', rfl⟩) with e | ⟨k', e⟩ <;> subst e <;> simp only [quietF, farR] <;> omega) (T) (by have e : (quietR (x 0)) = 401 - (k : Int) := (by simp only [quietR]; rw [← hQ]; rcases (show k = 0 ∨ ∃ k', k = k' + 1 from by rcases k with _ | k'; exact Or.inl rfl; exact Or.inr ⟨k', rfl⟩) with e | ⟨k', e⟩ <;> subst e <;> simp only [quietF, farR] <;> omega); rw [e, endX_n (by omega)])
  exact LP13 402 401 _ (by omega) (by omega) (VT_up hVt (by omega)) (EQ_quiet 401 hE h1)
set_option maxHeartbeats 4000000 in
theorem c_X5_off (l : Launch) (G : GT) (a : Nat → Nat) (x : MS) {f : Int} (h1 : VT 99999 (x 0)) (h2 : inR f) : CtE l G yX5_off cX5_off 3 (some .int) 6 [.ref (a 0), vI f] (wsX G a x) (offR (x 0) f) (fun u9 => wsX G a (setc (endX x (offR (x 0) f)) 1 u9)) := by
  obtain ⟨v0, v1, v2, v3, v4, v5, v6, v7⟩ := id h1
  unfold inR at h2
  have hoo := off_in f 401 (x 0) (by omega)
  refine CtE.of (by decide) (Nat.le_of_ble_eq_true rfl) ?_
  intro p e s m args below meth c A E hr
  refine jx_lv (lv' := [(0, .ref (a 0)), (1, vI f)]) [0, 1] rfl ?_
  refine jx_aload_n E 0 dX5_off_0 rfl ?_
  refine jx_get E f_X5 0 (v := .ref (a 1)) wx_obj (by decide) wf_X5_10 rfl dX5_off_1 ?_
  refine jx_iload_n E 1 dX5_off_4 rfl ?_
  refine jx_callVi E [vI f] [] (c_X4_has_0 l G a x (f := f) (by unfold inR; omega) v4) mb_X4_has mv_X4_has wl_X5_101 f_X4 (wx_town (j := 0) (by decide)) dX5_off_5 ?_
  refine jx_if_ne (tgt := 18) E dX5_off_8 (by decide) (fun c1 => ?_) (fun c1 => ?_)
  · skip
    refine jx_aload_n E 0 dX5_off_18 rfl ?_
    refine jx_get E f_X5 1 (v := .ref (a 13)) wx_obj (by decide) wf_X5_16 rfl dX5_off_19 ?_
    refine jx_aload_n E 0 dX5_off_22 rfl ?_
    refine jx_get E f_X5 0 (v := .ref (a 1)) wx_obj (by decide) wf_X5_10 rfl dX5_off_23 ?_
    refine jx_callVv E [.ref (a 1)] [] (c_X4_become_10 l G a x  v4) mb_X4_become mv_X4_become wl_X5_166 f_X4 (wx_town (j := 1) (by decide)) dX5_off_26 ?_
    have hE : EQ (hdP (x 1) (x 0) (21 + 5 * (x 0) 4)) (x 0) := EQ.hd v4
    have hVt := hE.snd h1
    have ho1 := EQ_off (f := f) 401 hE h1 (by omega)
    have ho2 := hE.f4
    have ho3 : (if vFou (hdP (x 1) (x 0) (21 + 5 * (x 0) 4)) f then offF f 401 (hdP (x 1) (x 0) (21 + 5 * (x 0) 4)) else 401) = offF f 401 (x 0) := by rw [if_pos (by omega), ho1]
    refine jx_aload_n E 0 dX5_off_29 rfl ?_
    refine jx_get E f_X5 1 (v := .ref (a 13)) wx_obj (by decide) wf_X5_16 rfl dX5_off_30 ?_
    refine jx_iload_n E 1 dX5_off_33 rfl ?_
    refine jx_callVe E [vI f] [] (c_X4_daysTillOff_1 l G a (setc x 1 (hdP (x 1) (x 0) (21 + 5 * (x 0) 4))) (f := f) (VT_up hVt (by omega)) (by unfold inR; omega)) mb_X4_daysTillOff mv_X4_daysTillOff wl_X5_173 f_X4 (wx_town (j := 1) (by decide)) dX5_off_34 (fun u2 => ?_)
    refine jx_eq (ws' := wsX G a (setc x 1 u2)) (congrArg (wsX G a) (by first | rfl | (rw [setc_setc]; rfl) | exact setc_in _ _ _ _ (by decide) | exact setc_in2 _ _ _ _ _ (by decide) (by decide) | (simp only [setc_setc, setc_at]; done) | (simp only [setc_setc, setc_at]; rfl) | (funext d; simp only [setc_app]; (repeat' split) <;> first | rfl | omega))) ?_
    refine jx_st (st' := [vI (if vFou (hdP (x 1) (x 0) (21 + 5 * (x 0) 4)) f then offF f 401 (hdP (x 1) (x 0) (21 + 5 * (x 0) 4)) else 401)]) (by first | rfl | (simp only [setc_at]; done) | (simp only [setc_at]; rfl)) ?_
    refine jx_istore_n E dX5_off_37 (by decide) [(2, vI (if vFou (hdP (x 1) (x 0) (21 + 5 * (x 0) 4)) f then offF f 401 (hdP (x 1) (x 0) (21 + 5 * (x 0) 4)) else 401)), (0, .ref (a 0)), (1, vI f)] rfl ?_
    refine jx_iload_n E 0 dX5_off_38 rfl ?_
    refine jx_sipush E dX5_off_39 ?_
    refine jx_icmp_le (tgt := 54) E dX5_off_42 (by decide) (fun c3 => ?_) (fun c3 => ?_)
    · skip
      refine jx_iload_n E 0 dX5_off_54 rfl ?_
      exact jx_iretE E hr dX5_off_55 (by have hV : vFou (x 0) f := (by omega); simp only [offR, if_pos hV]; simp only [farR]; omega) (u2) (by have hV : vFou (x 0) f := (by omega); have e : (offR (x 0) f) = (if vFou (hdP (x 1) (x 0) (21 + 5 * (x 0) 4)) f then offF f 401 (hdP (x 1) (x 0) (21 + 5 * (x 0) 4)) else 401) := (by simp only [offR, if_pos hV]; simp only [farR]; omega); rw [e, endX_n (by omega)])
    · skip
      refine jx_aload_n E 1 dX5_off_45 rfl ?_
      refine jx_ldc E wc_X5_153 dX5_off_46 ?_
      refine jx_callVi E [vI (-1000000004)] [] (c_X5_found l G a (setc x 1 u2) (f := (-1000000004)) (by omega)) mb_X5_found mv_X5_found wl_X5_54 f_X5 wx_obj dX5_off_48 ?_
      refine jx_st (st' := [vI (-1000000004)]) (by first | rfl | (simp only [setc_at]; done) | (simp only [setc_at]; rfl)) ?_
      refine jx_goto (tgt := 55) E dX5_off_51 (by decide) ?_
      exact jx_iretE E hr dX5_off_55 (by have hV : vFou (x 0) f := (by omega); simp only [offR, if_pos hV]; simp only [farR]; omega) (u2) (by have hV : vFou (x 0) f := (by omega); have e : (offR (x 0) f) = (-1000000004) := (by simp only [offR, if_pos hV]; simp only [farR]; omega); rw [e, endX_f (by decide)]; exact congrArg (wsX G a) (setc_comm _ _ _ (by decide)))
  · skip
    refine jx_aload_n E 0 dX5_off_11 rfl ?_
    refine jx_ldc E wc_X5_53 dX5_off_12 ?_
    refine jx_callVi E [vI (-1000000001)] [] (c_X5_found l G a x (f := (-1000000001)) (by omega)) mb_X5_found mv_X5_found wl_X5_54 f_X5 wx_obj dX5_off_14 ?_
    exact jx_iretE E hr dX5_off_17 (by have hV : ¬ (vFou (x 0) f) := (by omega); simp only [offR, if_neg hV]) (x 1) (by have hV : ¬ (vFou (x 0) f) := (by omega); simp only [offR, if_neg hV]; rw [endX_f (by decide)]; exact congrArg (wsX G a) (setc_self _ 1).symm)
