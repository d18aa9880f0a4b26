/-! 38.x7: laid by the walker out of specX7 -/
set_option maxHeartbeats 4000000 in
theorem c_X5_best (l : Launch) (G : GT) (a : Nat → Nat) (x : MS) {n : Int} (h1 : VT 99999 (x 0)) (h2 : inR n) : CtE l G yX5_best cX5_best 5 (some .int) 6 [.ref (a 0), vI n] (wsX G a x) (bestR (x 0) n) (fun u9 => wsX G a (setc (endX x (bestR (x 0) n)) 1 u9)) := by
  obtain ⟨v0, v1, v2, v3, v4, v5, v6, v7⟩ := id h1
  unfold inR at h2
  refine CtE.of (by decide) (Nat.le_of_ble_eq_true rfl) ?_
  intro p e s m args below meth c A E hr
  refine jx_lv (lv' := [(0, .ref (a 0)), (1, vI n)]) [0, 1] rfl ?_
  refine jx_iload_n E 1 dX5_best_0 rfl ?_
  refine jx_callSi E [vI n] [] (c_X5_isTried l G (wsX G a x) (n := n) (by unfold inR; omega)) mb_X5_isTried ms_X5_isTried wl_X5_154 dX5_best_1 ?_
  refine jx_if_ne (tgt := 14) E dX5_best_4 (by decide) (fun c1 => ?_) (fun c1 => ?_)
  · skip
    refine jx_iconst E dX5_best_14 ?_
    refine jx_istore_n E dX5_best_15 (by decide) [(2, vI (-1)), (0, .ref (a 0)), (1, vI n)] rfl ?_
    refine jx_iconst E dX5_best_16 ?_
    refine jx_istore_n E dX5_best_17 (by decide) [(3, vI (-1)), (2, vI (-1)), (0, .ref (a 0)), (1, vI n)] rfl ?_
    refine jx_iconst E dX5_best_18 ?_
    refine jx_istore E dX5_best_19 (by decide) [(4, vI 0), (3, vI (-1)), (2, vI (-1)), (0, .ref (a 0)), (1, vI n)] rfl ?_
    have LP21 : ∀ (n2 : Nat) (k : Nat) (bs : Int) (ms : Int) (U : Int → Int), ((k : Int) ≤ x 0 4) → (x 0 4 - (k : Int) < n2) → (bs = (boF (x 0) n.toNat k).1) → (ms = (boF (x 0) n.toNat k).2) → (-1 ≤ bs ∧ bs ≤ 8 ∧ -1 ≤ ms ∧ ms ≤ 9999) → JX p l e (rmL 6) s m args below meth c 5 G A 0 0 (QE below args s G A (bestR (x 0) n) (fun u9 => wsX G a (setc (endX x (bestR (x 0) n)) 1 u9))) (wsX G a (setc x 1 U)) 21 [(4, vI (k : Int)), (3, vI ms), (2, vI bs), (0, .ref (a 0)), (1, vI n)] [] := by
      intro n2
      induction n2 with
      | zero => intro k bs ms U q1 q2 hb hm hr2; exfalso; omega
      | succ n2 ih =>
        intro k bs ms U q1 q2 hb hm hr2
        refine jx_iload E 0 dX5_best_21 rfl ?_
        refine jx_aload_n E 3 dX5_best_23 rfl ?_
        refine jx_get E f_X5 0 (v := .ref (a 1)) wx_obj (by decide) wf_X5_10 rfl dX5_best_24 ?_
        refine jx_get E f_X4 7 (v := vI ((x 0) 4)) (wx_town (j := 0) (by decide)) (by decide) wf_X5_94 (by first | rfl | (simp only [setc_at, List.getElem?_cons_zero, List.getElem?_cons_succ]; done) | (simp [setc_at]; done)) dX5_best_27 ?_
        refine jx_icmp_ge (tgt := 110) E dX5_best_30 (by decide) (fun c2 => ?_) (fun c2 => ?_)
        · skip
          have hN : bs = (boF (x 0) n.toNat (x 0 4).toNat).1 := by rw [hb, show k = (x 0 4).toNat by omega]
          refine jx_iload_n E 2 dX5_best_110 rfl ?_
          refine jx_iconst E dX5_best_111 ?_
          refine jx_icmp_ne (tgt := 124) E dX5_best_112 (by decide) (fun c3 => ?_) (fun c3 => ?_)
          · skip
            refine jx_iload_n E 2 dX5_best_124 rfl ?_
            exact jx_iretE E hr dX5_best_125 (by have hV : v100 n := (by omega); simp only [bestR, if_pos hV]; rw [← hN]; simp only [noneR]; omega) (U) (by have hV : v100 n := (by omega); have e : (bestR (x 0) n) = bs := (by simp only [bestR, if_pos hV]; rw [← hN]; simp only [noneR]; omega); rw [e, endX_n (by omega)])
          · skip
            refine jx_aload_n E 3 dX5_best_115 rfl ?_
            refine jx_ldc E wc_X5_153 dX5_best_116 ?_
            refine jx_callVi E [vI (-1000000004)] [] (c_X5_found l G a (setc x 1 U) (f := (-1000000004)) (by omega)) mb_X5_found mv_X5_found wl_X5_54 f_X5 wx_obj dX5_best_118 ?_
            refine jx_st (st' := [vI (-1000000004)]) (by first | rfl | (simp only [setc_at]; done) | (simp only [setc_at]; rfl)) ?_
            refine jx_goto (tgt := 125) E dX5_best_121 (by decide) ?_
            exact jx_iretE E hr dX5_best_125 (by have hV : v100 n := (by omega); simp only [bestR, if_pos hV]; rw [← hN]; simp only [noneR]; omega) (U) (by have hV : v100 n := (by omega); have e : (bestR (x 0) n) = (-1000000004) := (by simp only [bestR, if_pos hV]; rw [← hN]; simp only [noneR]; omega); rw [e, endX_f (by decide)]; exact congrArg (wsX G a) (setc_comm _ _ _ (by decide)))
        · skip
          have q3 : (k : Int) < x 0 4 := by omega
          have hz := VT_fou h1 (i := (k : Int)) (f := 2) (v := 1) (by omega) (by omega) (by omega)
          have hz2 := VT_days hz n.toNat
          have hz1 := hz2.2.1
          have hoff := (v7 k (by omega) q3).2.2.1
          refine jx_aload_n E 3 dX5_best_33 rfl ?_
          refine jx_get E f_X5 0 (v := .ref (a 1)) wx_obj (by decide) wf_X5_10 rfl dX5_best_34 ?_
          refine jx_get E f_X4 6 (v := .ref (a 4)) (wx_town (j := 0) (by decide)) (by decide) wf_X5_104 rfl dX5_best_37 ?_
          refine jx_iload E 0 dX5_best_40 rfl ?_
          refine jx_aald E 2 (y := a (5 + 12 * 0 + (k : Int).toNat)) (wx_row (j := 0) (by decide)) rfl rfl (by omega) (by omega) (by decide) dX5_best_42 ?_
          refine jx_get E f_X0 2 (v := vI ((x 0) (21 + 5 * (k : Int) + 2))) (wx_fou (j := 0) (by decide) (by omega) (by omega)) (by decide) wf_X5_120 (by first | rfl | (simp only [setc_at, List.getElem?_cons_zero, List.getElem?_cons_succ]; done) | (simp [setc_at]; done)) dX5_best_43 ?_
          refine jx_if_ne (tgt := 104) E dX5_best_46 (by decide) (fun c4 => ?_) (fun c4 => ?_)
          · skip
            refine jx_iinc E 0 dX5_best_104 rfl (by decide) [(4, vI ((k : Int) + 1)), (3, vI ms), (2, vI bs), (0, .ref (a 0)), (1, vI n)] rfl ?_
            refine jx_goto (tgt := 21) E dX5_best_107 (by decide) ?_
            exact ih (k + 1) _ _ _ (by omega) (by omega) (by rw [boF_1]; omega) (by rw [boF_2]; omega) (by omega)
          · skip
            refine jx_aload_n E 3 dX5_best_49 rfl ?_
            refine jx_get E f_X5 1 (v := .ref (a 13)) wx_obj (by decide) wf_X5_16 rfl dX5_best_50 ?_
            refine jx_aload_n E 3 dX5_best_53 rfl ?_
            refine jx_get E f_X5 0 (v := .ref (a 1)) wx_obj (by decide) wf_X5_10 rfl dX5_best_54 ?_
            refine jx_callVv E [.ref (a 1)] [] (c_X4_become_10 l G a (setc x 1 U)  v4) mb_X4_become mv_X4_become wl_X5_166 f_X4 (wx_town (j := 1) (by decide)) dX5_best_57 ?_
            refine jx_eq (ws' := wsX G a (setc x 1 (hdP U (x 0) (21 + 5 * (x 0) 4)))) (congrArg (wsX G a) (by first | rfl | (rw [setc_setc]; rfl) | exact setc_in _ _ _ _ (by decide) | exact setc_in2 _ _ _ _ _ (by decide) (by decide) | (simp only [setc_setc, setc_at]; done) | (simp only [setc_setc, setc_at]; rfl) | (funext d; simp only [setc_app]; (repeat' split) <;> first | rfl | omega))) ?_
            have hE : EQ (hdP U (x 0) (21 + 5 * (x 0) 4)) (x 0) := EQ.hd v4
            have hE2 := hE.up (k := 21 + 5 * (k : Int) + 2) 1 (by omega)
            have hVt := hE2.snd hz
            have g1 := (hE2.days hz n.toNat).lo (k := 1) (by decide) (by decide)
            refine jx_aload_n E 3 dX5_best_60 rfl ?_
            refine jx_get E f_X5 1 (v := .ref (a 13)) wx_obj (by decide) wf_X5_16 rfl dX5_best_61 ?_
            refine jx_get E f_X4 6 (v := .ref (a 16)) (wx_town (j := 1) (by decide)) (by decide) wf_X5_104 rfl dX5_best_64 ?_
            refine jx_iload E 0 dX5_best_67 rfl ?_
            refine jx_aald E 2 (y := a (5 + 12 * 1 + (k : Int).toNat)) (wx_row (j := 1) (by decide)) rfl rfl (by omega) (by omega) (by decide) dX5_best_69 ?_
            refine jx_iconst E dX5_best_70 ?_
            refine jx_put E f_X0 2 (wx_fou (j := 1) (by decide) (by omega) (by omega)) (by decide) wf_X5_120 rfl rfl rfl (Nat.le_of_ble_eq_true rfl) (wp_fou2 (j := 1) (by decide) (by omega) (by omega)) dX5_best_71 ?_
            refine jx_eq (ws' := wsX G a (setc x 1 (updI (hdP U (x 0) (21 + 5 * (x 0) 4)) (21 + 5 * (k : Int) + 2) 1))) (congrArg (wsX G a) (by first | rfl | (rw [setc_setc]; rfl) | exact setc_in _ _ _ _ (by decide) | exact setc_in2 _ _ _ _ _ (by decide) (by decide) | (simp only [setc_setc, setc_at]; done) | (simp only [setc_setc, setc_at]; rfl) | (funext d; simp only [setc_app]; (repeat' split) <;> first | rfl | omega))) ?_
            refine jx_aload_n E 3 dX5_best_74 rfl ?_
            refine jx_get E f_X5 1 (v := .ref (a 13)) wx_obj (by decide) wf_X5_16 rfl dX5_best_75 ?_
            refine jx_iload_n E 4 dX5_best_78 rfl ?_
            refine jx_callVv E [vI n] [] (c_X4_passDays_1 l G a (setc x 1 (updI (hdP U (x 0) (21 + 5 * (x 0) 4)) (21 + 5 * (k : Int) + 2) 1)) (n := n) (VT_up hVt (by omega)) (by omega)) mb_X4_passDays mv_X4_passDays wl_X5_159 f_X4 (wx_town (j := 1) (by decide)) dX5_best_79 ?_
            refine jx_eq (ws' := wsX G a (setc x 1 (daysP n.toNat (updI (hdP U (x 0) (21 + 5 * (x 0) 4)) (21 + 5 * (k : Int) + 2) 1)))) (congrArg (wsX G a) (by first | rfl | (rw [setc_setc]; rfl) | exact setc_in _ _ _ _ (by decide) | exact setc_in2 _ _ _ _ _ (by decide) (by decide) | (simp only [setc_setc, setc_at]; done) | (simp only [setc_setc, setc_at]; rfl) | (funext d; simp only [setc_app]; (repeat' split) <;> first | rfl | omega))) ?_
            refine jx_aload_n E 3 dX5_best_82 rfl ?_
            refine jx_get E f_X5 1 (v := .ref (a 13)) wx_obj (by decide) wf_X5_16 rfl dX5_best_83 ?_
            refine jx_get E f_X4 1 (v := vI ((daysP n.toNat (updI (hdP U (x 0) (21 + 5 * (x 0) 4)) (21 + 5 * (k : Int) + 2) 1)) 1)) (wx_town (j := 1) (by decide)) (by decide) wf_X5_58 (by first | rfl | (simp only [setc_at, List.getElem?_cons_zero, List.getElem?_cons_succ]; done) | (simp [setc_at]; done)) dX5_best_86 ?_
            refine jx_iload_n E 1 dX5_best_89 rfl ?_
            refine jx_icmp_le (tgt := 104) E dX5_best_90 (by decide) (fun c5 => ?_) (fun c5 => ?_)
            · skip
              refine jx_iinc E 0 dX5_best_104 rfl (by decide) [(4, vI ((k : Int) + 1)), (3, vI ms), (2, vI bs), (0, .ref (a 0)), (1, vI n)] rfl ?_
              refine jx_goto (tgt := 21) E dX5_best_107 (by decide) ?_
              exact ih (k + 1) _ _ _ (by omega) (by omega) (by rw [boF_1]; omega) (by rw [boF_2]; omega) (by omega)
            · skip
              refine jx_aload_n E 3 dX5_best_93 rfl ?_
              refine jx_get E f_X5 1 (v := .ref (a 13)) wx_obj (by decide) wf_X5_16 rfl dX5_best_94 ?_
              refine jx_get E f_X4 1 (v := vI ((daysP n.toNat (updI (hdP U (x 0) (21 + 5 * (x 0) 4)) (21 + 5 * (k : Int) + 2) 1)) 1)) (wx_town (j := 1) (by decide)) (by decide) wf_X5_58 (by first | rfl | (simp only [setc_at, List.getElem?_cons_zero, List.getElem?_cons_succ]; done) | (simp [setc_at]; done)) dX5_best_97 ?_
              refine jx_istore_n E dX5_best_100 (by decide) [(3, vI ((daysP n.toNat (updI (hdP U (x 0) (21 + 5 * (x 0) 4)) (21 + 5 * (k : Int) + 2) 1)) 1)), (4, vI (k : Int)), (2, vI bs), (0, .ref (a 0)), (1, vI n)] rfl ?_
              refine jx_iload E 1 dX5_best_101 rfl ?_
              refine jx_istore_n E dX5_best_103 (by decide) [(2, vI (k : Int)), (3, vI ((daysP n.toNat (updI (hdP U (x 0) (21 + 5 * (x 0) 4)) (21 + 5 * (k : Int) + 2) 1)) 1)), (4, vI (k : Int)), (0, .ref (a 0)), (1, vI n)] rfl ?_
              refine jx_iinc E 2 dX5_best_104 rfl (by decide) [(4, vI ((k : Int) + 1)), (2, vI (k : Int)), (3, vI ((daysP n.toNat (updI (hdP U (x 0) (21 + 5 * (x 0) 4)) (21 + 5 * (k : Int) + 2) 1)) 1)), (0, .ref (a 0)), (1, vI n)] rfl ?_
              refine jx_goto (tgt := 21) E dX5_best_107 (by decide) ?_
              refine jx_lv (lv' := [(4, vI ((k : Int) + 1)), (3, vI ((daysP n.toNat (updI (hdP U (x 0) (21 + 5 * (x 0) 4)) (21 + 5 * (k : Int) + 2) 1)) 1)), (2, vI (k : Int)), (0, .ref (a 0)), (1, vI n)]) [0, 2, 1, 3, 4] rfl ?_
              exact ih (k + 1) _ _ _ (by omega) (by omega) (by rw [boF_1]; omega) (by rw [boF_2]; omega) (by omega)
    refine jx_eq (ws' := wsX G a (setc x 1 (x 1))) (congrArg (wsX G a) (setc_self x 1).symm) ?_
    exact LP21 10 0 _ _ _ (by omega) (by omega) rfl rfl (by omega)
  · skip
    refine jx_aload_n E 0 dX5_best_7 rfl ?_
    refine jx_ldc E wc_X5_53 dX5_best_8 ?_
    refine jx_callVi E [vI (-1000000001)] [] (c_X5_found l G a x (f := (-1000000001)) (by omega)) mb_X5_found mv_X5_found wl_X5_54 f_X5 wx_obj dX5_best_10 ?_
    exact jx_iretE E hr dX5_best_13 (by have hV : ¬ (v100 n) := (by omega); simp only [bestR, if_neg hV]) (x 1) (by have hV : ¬ (v100 n) := (by omega); simp only [bestR, if_neg hV]; rw [endX_f (by decide)]; exact congrArg (wsX G a) (setc_self _ 1).symm)
set_option maxHeartbeats 4000000 in
theorem c_X5_high (l : Launch) (G : GT) (a : Nat → Nat) (x : MS) {f n : Int} (h1 : VT 99999 (x 0)) (h2 : inR f) (h3 : inR n) : CtE l G yX5_high cX5_high 4 (some .int) 6 [.ref (a 0), vI f, vI n] (wsX G a x) (highR (x 0) f n) (fun u9 => wsX G a (setc (endX x (highR (x 0) f n)) 1 u9)) := by
  obtain ⟨v0, v1, v2, v3, v4, v5, v6, v7⟩ := id h1
  unfold inR at h2 h3
  obtain ⟨RR, hRR⟩ : ∃ RR, highF (x 0) f n.toNat 40 = RR := ⟨_, rfl⟩
  refine CtE.of (by decide) (Nat.le_of_ble_eq_true rfl) ?_
  intro p e s m args below meth c A E hr
  refine jx_lv (lv' := [(0, .ref (a 0)), (1, vI f), (2, vI n)]) [0, 1, 2] rfl ?_
  refine jx_aload_n E 0 dX5_high_0 rfl ?_
  refine jx_get E f_X5 0 (v := .ref (a 1)) wx_obj (by decide) wf_X5_10 rfl dX5_high_1 ?_
  refine jx_iload_n E 1 dX5_high_4 rfl ?_
  refine jx_callVi E [vI f] [] (c_X4_has_0 l G a x (f := f) (by unfold inR; omega) v4) mb_X4_has mv_X4_has wl_X5_101 f_X4 (wx_town (j := 0) (by decide)) dX5_high_5 ?_
  refine jx_if_eq (tgt := 18) E dX5_high_8 (by decide) (fun c1 => ?_) (fun c1 => ?_)
  · skip
    refine jx_aload_n E 0 dX5_high_18 rfl ?_
    refine jx_ldc E wc_X5_53 dX5_high_19 ?_
    refine jx_callVi E [vI (-1000000001)] [] (c_X5_found l G a x (f := (-1000000001)) (by omega)) mb_X5_found mv_X5_found wl_X5_54 f_X5 wx_obj dX5_high_21 ?_
    exact jx_iretE E hr dX5_high_24 (by have hV : ¬ (vFou (x 0) f ∧ v100 n) := (by omega); simp only [highR, if_neg hV]) (x 1) (by have hV : ¬ (vFou (x 0) f ∧ v100 n) := (by omega); simp only [highR, if_neg hV]; rw [endX_f (by decide)]; exact congrArg (wsX G a) (setc_self _ 1).symm)
  · skip
    refine jx_iload_n E 2 dX5_high_11 rfl ?_
    refine jx_callSi E [vI n] [] (c_X5_isTried l G (wsX G a x) (n := n) (by unfold inR; omega)) mb_X5_isTried ms_X5_isTried wl_X5_154 dX5_high_12 ?_
    refine jx_if_ne (tgt := 25) E dX5_high_15 (by decide) (fun c2 => ?_) (fun c2 => ?_)
    · skip
      refine jx_bipush E dX5_high_25 ?_
      refine jx_istore_n E dX5_high_27 (by decide) [(3, vI 40), (0, .ref (a 0)), (1, vI f), (2, vI n)] rfl ?_
      have LP28 : ∀ (n2 : Nat) (k : Nat) (U : Int → Int), (k ≤ 40) → (k < n2) → (highF (x 0) f n.toNat k = RR) → JX p l e (rmL 6) s m args below meth c 4 G A 0 0 (QE below args s G A (highR (x 0) f n) (fun u9 => wsX G a (setc (endX x (highR (x 0) f n)) 1 u9))) (wsX G a (setc x 1 U)) 28 [(3, vI (k : Int)), (0, .ref (a 0)), (1, vI f), (2, vI n)] [] := by
        intro n2
        induction n2 with
        | zero => intro k U q1 q2 hQ; exfalso; omega
        | succ n2 ih =>
          intro k U q1 q2 hQ
          refine jx_iload_n E 0 dX5_high_28 rfl ?_
          refine jx_iconst E dX5_high_29 ?_
          refine jx_icmp_lt (tgt := 77) E dX5_high_30 (by decide) (fun c3 => ?_) (fun c3 => ?_)
          · skip
            have hFd : RR = -1 := by
              rw [← hQ, show k = 0 by omega]
              rfl
            refine jx_aload_n E 1 dX5_high_77 rfl ?_
            refine jx_ldc E wc_X5_153 dX5_high_78 ?_
            refine jx_callVi E [vI (-1000000004)] [] (c_X5_found l G a (setc x 1 U) (f := (-1000000004)) (by omega)) mb_X5_found mv_X5_found wl_X5_54 f_X5 wx_obj dX5_high_80 ?_
            refine jx_st (st' := [vI (-1000000004)]) (by first | rfl | (simp only [setc_at]; done) | (simp only [setc_at]; rfl)) ?_
            exact jx_iretE E hr dX5_high_83 (by have hV : vFou (x 0) f ∧ v100 n := (by omega); simp only [highR, if_pos hV]; rw [hRR, hFd]; simp only [noneR]; omega) (U) (by have hV : vFou (x 0) f ∧ v100 n := (by omega); have e : (highR (x 0) f n) = (-1000000004) := (by simp only [highR, if_pos hV]; rw [hRR, hFd]; simp only [noneR]; omega); rw [e, endX_f (by decide)]; exact congrArg (wsX G a) (setc_comm _ _ _ (by decide)))
          · skip
            have hz := VT_fou h1 (i := f) (f := 1) (v := (k : Int)) (by omega) (by omega) (by omega)
            refine jx_aload_n E 1 dX5_high_33 rfl ?_
            refine jx_get E f_X5 1 (v := .ref (a 13)) wx_obj (by decide) wf_X5_16 rfl dX5_high_34 ?_
            refine jx_aload_n E 1 dX5_high_37 rfl ?_
            refine jx_get E f_X5 0 (v := .ref (a 1)) wx_obj (by decide) wf_X5_10 rfl dX5_high_38 ?_
            refine jx_callVv E [.ref (a 1)] [] (c_X4_become_10 l G a (setc x 1 U)  v4) mb_X4_become mv_X4_become wl_X5_166 f_X4 (wx_town (j := 1) (by decide)) dX5_high_41 ?_
            refine jx_eq (ws' := wsX G a (setc x 1 (hdP U (x 0) (21 + 5 * (x 0) 4)))) (congrArg (wsX G a) (by first | rfl | (rw [setc_setc]; rfl) | exact setc_in _ _ _ _ (by decide) | exact setc_in2 _ _ _ _ _ (by decide) (by decide) | (simp only [setc_setc, setc_at]; done) | (simp only [setc_setc, setc_at]; rfl) | (funext d; simp only [setc_app]; (repeat' split) <;> first | rfl | omega))) ?_
            have hE : EQ (hdP U (x 0) (21 + 5 * (x 0) 4)) (x 0) := EQ.hd v4
            have hE2 := hE.up (k := 21 + 5 * f + 1) ((k : Int)) (by omega)
            have hVt := hE2.snd hz
            have he4 : updI (hdP U (x 0) (21 + 5 * (x 0) 4)) (21 + 5 * f + 1) ((k : Int)) 4 = x 0 4 := by rw [updI_ne _ _ (by omega)]; exact hE.f4
            have hu4 : updI (x 0) (21 + 5 * f + 1) ((k : Int)) 4 = x 0 4 := updI_ne _ _ (by omega)
            have g0 := hE2.stays hz (f := f) (by rw [hu4]; omega) n.toNat
            have g1 : (if vFou (updI (hdP U (x 0) (21 + 5 * (x 0) 4)) (21 + 5 * f + 1) ((k : Int))) f then staysI (updI (hdP U (x 0) (21 + 5 * (x 0) 4)) (21 + 5 * f + 1) ((k : Int))) f n.toNat else 0) = staysI (updI (x 0) (21 + 5 * f + 1) ((k : Int))) f n.toNat := by rw [if_pos (by omega), g0]
            have g2 : staysI (updI (x 0) (21 + 5 * f + 1) ((k : Int))) f n.toNat = 0 ∨ staysI (updI (x 0) (21 + 5 * f + 1) ((k : Int))) f n.toNat = 1 := by unfold staysI; omega
            refine jx_aload_n E 1 dX5_high_44 rfl ?_
            refine jx_get E f_X5 1 (v := .ref (a 13)) wx_obj (by decide) wf_X5_16 rfl dX5_high_45 ?_
            refine jx_get E f_X4 6 (v := .ref (a 16)) (wx_town (j := 1) (by decide)) (by decide) wf_X5_104 rfl dX5_high_48 ?_
            refine jx_iload_n E 2 dX5_high_51 rfl ?_
            refine jx_aald E 2 (y := a (5 + 12 * 1 + f.toNat)) (wx_row (j := 1) (by decide)) rfl rfl (by omega) (by omega) (by decide) dX5_high_52 ?_
            refine jx_iload_n E 0 dX5_high_53 rfl ?_
            refine jx_put E f_X0 1 (wx_fou (j := 1) (by decide) (by omega) (by omega)) (by decide) wf_X5_117 rfl rfl rfl (Nat.le_of_ble_eq_true rfl) (wp_fou1 (j := 1) (by decide) (by omega) (by omega)) dX5_high_54 ?_
            refine jx_eq (ws' := wsX G a (setc x 1 (updI (hdP U (x 0) (21 + 5 * (x 0) 4)) (21 + 5 * f + 1) (k : Int)))) (congrArg (wsX G a) (by first | rfl | (rw [setc_setc]; rfl) | exact setc_in _ _ _ _ (by decide) | exact setc_in2 _ _ _ _ _ (by decide) (by decide) | (simp only [setc_setc, setc_at]; done) | (simp only [setc_setc, setc_at]; rfl) | (funext d; simp only [setc_app]; (repeat' split) <;> first | rfl | omega))) ?_
            refine jx_aload_n E 1 dX5_high_57 rfl ?_
            refine jx_get E f_X5 1 (v := .ref (a 13)) wx_obj (by decide) wf_X5_16 rfl dX5_high_58 ?_
            refine jx_iload_n E 2 dX5_high_61 rfl ?_
            refine jx_iload_n E 3 dX5_high_62 rfl ?_
            refine jx_callVe E [vI f, vI n] [] (c_X4_letsGo_1 l G a (setc x 1 (updI (hdP U (x 0) (21 + 5 * (x 0) 4)) (21 + 5 * f + 1) (k : Int))) (f := f) (n := n) (VT_up hVt (by omega)) (by unfold inR; omega) (by omega)) mb_X4_letsGo mv_X4_letsGo wl_X5_176 f_X4 (wx_town (j := 1) (by decide)) dX5_high_63 (fun u4 => ?_)
            refine jx_eq (ws' := wsX G a (setc x 1 u4)) (congrArg (wsX G a) (by first | rfl | (rw [setc_setc]; rfl) | exact setc_in _ _ _ _ (by decide) | exact setc_in2 _ _ _ _ _ (by decide) (by decide) | (simp only [setc_setc, setc_at]; done) | (simp only [setc_setc, setc_at]; rfl) | (funext d; simp only [setc_app]; (repeat' split) <;> first | rfl | omega))) ?_
            refine jx_st (st' := [vI (if vFou (updI (hdP U (x 0) (21 + 5 * (x 0) 4)) (21 + 5 * f + 1) (k : Int)) f then staysI (updI (hdP U (x 0) (21 + 5 * (x 0) 4)) (21 + 5 * f + 1) (k : Int)) f n.toNat else 0)]) (by first | rfl | (simp only [setc_at]; done) | (simp only [setc_at]; rfl)) ?_
            refine jx_if_eq (tgt := 71) E dX5_high_66 (by decide) (fun c5 => ?_) (fun c5 => ?_)
            · skip
              refine jx_iinc E 0 dX5_high_71 rfl (by decide) [(3, vI ((k : Int) + (-1))), (0, .ref (a 0)), (1, vI f), (2, vI n)] rfl ?_
              refine jx_goto (tgt := 28) E dX5_high_74 (by decide) ?_
              obtain ⟨k', rfl⟩ : ∃ k', k = k' + 1 := ⟨k - 1, by omega⟩
              refine jx_lve (congrArg (fun z => [(3, vI z), (0, Value.ref (a 0)), (1, vI f), (2, vI n)]) (show ((k' + 1 : Nat) : Int) + (-1) = (k' : Int) by omega)) ?_
              rw [highF, show (k' : Int) + 1 = ((k' + 1 : Nat) : Int) by omega, if_neg (by omega)] at hQ
              exact ih k' _ (by omega) (by omega) hQ
            · skip
              have hFd : RR = (k : Int) := by
                rw [← hQ]
                obtain ⟨k', e⟩ : ∃ k', k = k' + 1 := ⟨k - 1, by omega⟩
                subst e
                rw [highF, show (k' : Int) + 1 = ((k' + 1 : Nat) : Int) by omega, if_pos (by omega)]
              refine jx_iload_n E 0 dX5_high_69 rfl ?_
              exact jx_iretE E hr dX5_high_70 (by have hV : vFou (x 0) f ∧ v100 n := (by omega); simp only [highR, if_pos hV]; rw [hRR, hFd]; simp only [noneR]; omega) (u4) (by have hV : vFou (x 0) f ∧ v100 n := (by omega); have e : (highR (x 0) f n) = (k : Int) := (by simp only [highR, if_pos hV]; rw [hRR, hFd]; simp only [noneR]; omega); rw [e, endX_n (by omega)])
      refine jx_eq (ws' := wsX G a (setc x 1 (x 1))) (congrArg (wsX G a) (setc_self x 1).symm) ?_
      exact LP28 41 40 _ (by omega) (by omega) hRR
    · skip
      refine jx_aload_n E 0 dX5_high_18 rfl ?_
      refine jx_ldc E wc_X5_53 dX5_high_19 ?_
      refine jx_callVi E [vI (-1000000001)] [] (c_X5_found l G a x (f := (-1000000001)) (by omega)) mb_X5_found mv_X5_found wl_X5_54 f_X5 wx_obj dX5_high_21 ?_
      exact jx_iretE E hr dX5_high_24 (by have hV : ¬ (vFou (x 0) f ∧ v100 n) := (by omega); simp only [highR, if_neg hV]) (x 1) (by have hV : ¬ (vFou (x 0) f ∧ v100 n) := (by omega); simp only [highR, if_neg hV]; rw [endX_f (by decide)]; exact congrArg (wsX G a) (setc_self _ 1).symm)
set_option maxHeartbeats 4000000 in
theorem c_X5_loved (l : Launch) (G : GT) (a : Nat → Nat) (x : MS) {f n : Int} (h1 : VT 99999 (x 0)) (h2 : inR f) (h3 : inR n) : CtE l G yX5_loved cX5_loved 4 (some .int) 6 [.ref (a 0), vI f, vI n] (wsX G a x) (lovedR (x 0) f n) (fun u9 => wsX G a (setc (endX x (lovedR (x 0) f n)) 1 u9)) := by
  obtain ⟨v0, v1, v2, v3, v4, v5, v6, v7⟩ := id h1
  unfold inR at h2 h3
  obtain ⟨RR, hRR⟩ : ∃ RR, lovedF (x 0) f n.toNat 100 = RR := ⟨_, rfl⟩
  refine CtE.of (by decide) (Nat.le_of_ble_eq_true rfl) ?_
  intro p e s m args below meth c A E hr
  refine jx_lv (lv' := [(0, .ref (a 0)), (1, vI f), (2, vI n)]) [0, 1, 2] rfl ?_
  refine jx_aload_n E 0 dX5_loved_0 rfl ?_
  refine jx_get E f_X5 0 (v := .ref (a 1)) wx_obj (by decide) wf_X5_10 rfl dX5_loved_1 ?_
  refine jx_iload_n E 1 dX5_loved_4 rfl ?_
  refine jx_callVi E [vI f] [] (c_X4_has_0 l G a x (f := f) (by unfold inR; omega) v4) mb_X4_has mv_X4_has wl_X5_101 f_X4 (wx_town (j := 0) (by decide)) dX5_loved_5 ?_
  refine jx_if_eq (tgt := 18) E dX5_loved_8 (by decide) (fun c1 => ?_) (fun c1 => ?_)
  · skip
    refine jx_aload_n E 0 dX5_loved_18 rfl ?_
    refine jx_ldc E wc_X5_53 dX5_loved_19 ?_
    refine jx_callVi E [vI (-1000000001)] [] (c_X5_found l G a x (f := (-1000000001)) (by omega)) mb_X5_found mv_X5_found wl_X5_54 f_X5 wx_obj dX5_loved_21 ?_
    exact jx_iretE E hr dX5_loved_24 (by have hV : ¬ (vFou (x 0) f ∧ v100 n) := (by omega); simp only [lovedR, if_neg hV]) (x 1) (by have hV : ¬ (vFou (x 0) f ∧ v100 n) := (by omega); simp only [lovedR, if_neg hV]; rw [endX_f (by decide)]; exact congrArg (wsX G a) (setc_self _ 1).symm)
  · skip
    refine jx_iload_n E 2 dX5_loved_11 rfl ?_
    refine jx_callSi E [vI n] [] (c_X5_isTried l G (wsX G a x) (n := n) (by unfold inR; omega)) mb_X5_isTried ms_X5_isTried wl_X5_154 dX5_loved_12 ?_
    refine jx_if_ne (tgt := 25) E dX5_loved_15 (by decide) (fun c2 => ?_) (fun c2 => ?_)
    · skip
      refine jx_iconst E dX5_loved_25 ?_
      refine jx_istore_n E dX5_loved_26 (by decide) [(3, vI 0), (0, .ref (a 0)), (1, vI f), (2, vI n)] rfl ?_
      have LP27 : ∀ (n2 : Nat) (k : Nat) (U : Int → Int), (k ≤ 100) → (k < n2) → (lovedF (x 0) f n.toNat k = RR) → JX p l e (rmL 6) s m args below meth c 4 G A 0 0 (QE below args s G A (lovedR (x 0) f n) (fun u9 => wsX G a (setc (endX x (lovedR (x 0) f n)) 1 u9))) (wsX G a (setc x 1 U)) 27 [(3, vI (100 - (k : Int))), (0, .ref (a 0)), (1, vI f), (2, vI n)] [] := by
        intro n2
        induction n2 with
        | zero => intro k U q1 q2 hQ; exfalso; omega
        | succ n2 ih =>
          intro k U q1 q2 hQ
          refine jx_iload_n E 0 dX5_loved_27 rfl ?_
          refine jx_bipush E dX5_loved_28 ?_
          refine jx_icmp_gt (tgt := 77) E dX5_loved_30 (by decide) (fun c3 => ?_) (fun c3 => ?_)
          · skip
            have hFd : RR = -1 := by
              rw [← hQ, show k = 0 by omega]
              rfl
            refine jx_aload_n E 1 dX5_loved_77 rfl ?_
            refine jx_ldc E wc_X5_153 dX5_loved_78 ?_
            refine jx_callVi E [vI (-1000000004)] [] (c_X5_found l G a (setc x 1 U) (f := (-1000000004)) (by omega)) mb_X5_found mv_X5_found wl_X5_54 f_X5 wx_obj dX5_loved_80 ?_
            refine jx_st (st' := [vI (-1000000004)]) (by first | rfl | (simp only [setc_at]; done) | (simp only [setc_at]; rfl)) ?_
            exact jx_iretE E hr dX5_loved_83 (by have hV : vFou (x 0) f ∧ v100 n := (by omega); simp only [lovedR, if_pos hV]; rw [hRR, hFd]; simp only [noneR]; omega) (U) (by have hV : vFou (x 0) f ∧ v100 n := (by omega); have e : (lovedR (x 0) f n) = (-1000000004) := (by simp only [lovedR, if_pos hV]; rw [hRR, hFd]; simp only [noneR]; omega); rw [e, endX_f (by decide)]; exact congrArg (wsX G a) (setc_comm _ _ _ (by decide)))
          · skip
            have hz := VT_fou h1 (i := f) (f := 3) (v := 100 - (k : Int)) (by omega) (by omega) (by omega)
            refine jx_aload_n E 1 dX5_loved_33 rfl ?_
            refine jx_get E f_X5 1 (v := .ref (a 13)) wx_obj (by decide) wf_X5_16 rfl dX5_loved_34 ?_
            refine jx_aload_n E 1 dX5_loved_37 rfl ?_
            refine jx_get E f_X5 0 (v := .ref (a 1)) wx_obj (by decide) wf_X5_10 rfl dX5_loved_38 ?_
            refine jx_callVv E [.ref (a 1)] [] (c_X4_become_10 l G a (setc x 1 U)  v4) mb_X4_become mv_X4_become wl_X5_166 f_X4 (wx_town (j := 1) (by decide)) dX5_loved_41 ?_
            refine jx_eq (ws' := wsX G a (setc x 1 (hdP U (x 0) (21 + 5 * (x 0) 4)))) (congrArg (wsX G a) (by first | rfl | (rw [setc_setc]; rfl) | exact setc_in _ _ _ _ (by decide) | exact setc_in2 _ _ _ _ _ (by decide) (by decide) | (simp only [setc_setc, setc_at]; done) | (simp only [setc_setc, setc_at]; rfl) | (funext d; simp only [setc_app]; (repeat' split) <;> first | rfl | omega))) ?_
            have hE : EQ (hdP U (x 0) (21 + 5 * (x 0) 4)) (x 0) := EQ.hd v4
            have hE2 := hE.up (k := 21 + 5 * f + 3) (100 - (k : Int)) (by omega)
            have hVt := hE2.snd hz
            have he4 : updI (hdP U (x 0) (21 + 5 * (x 0) 4)) (21 + 5 * f + 3) (100 - (k : Int)) 4 = x 0 4 := by rw [updI_ne _ _ (by omega)]; exact hE.f4
            have hu4 : updI (x 0) (21 + 5 * f + 3) (100 - (k : Int)) 4 = x 0 4 := updI_ne _ _ (by omega)
            have g0 := hE2.stays hz (f := f) (by rw [hu4]; omega) n.toNat
            have g1 : (if vFou (updI (hdP U (x 0) (21 + 5 * (x 0) 4)) (21 + 5 * f + 3) (100 - (k : Int))) f then staysI (updI (hdP U (x 0) (21 + 5 * (x 0) 4)) (21 + 5 * f + 3) (100 - (k : Int))) f n.toNat else 0) = staysI (updI (x 0) (21 + 5 * f + 3) (100 - (k : Int))) f n.toNat := by rw [if_pos (by omega), g0]
            have g2 : staysI (updI (x 0) (21 + 5 * f + 3) (100 - (k : Int))) f n.toNat = 0 ∨ staysI (updI (x 0) (21 + 5 * f + 3) (100 - (k : Int))) f n.toNat = 1 := by unfold staysI; omega
            refine jx_aload_n E 1 dX5_loved_44 rfl ?_
            refine jx_get E f_X5 1 (v := .ref (a 13)) wx_obj (by decide) wf_X5_16 rfl dX5_loved_45 ?_
            refine jx_get E f_X4 6 (v := .ref (a 16)) (wx_town (j := 1) (by decide)) (by decide) wf_X5_104 rfl dX5_loved_48 ?_
            refine jx_iload_n E 2 dX5_loved_51 rfl ?_
            refine jx_aald E 2 (y := a (5 + 12 * 1 + f.toNat)) (wx_row (j := 1) (by decide)) rfl rfl (by omega) (by omega) (by decide) dX5_loved_52 ?_
            refine jx_iload_n E 0 dX5_loved_53 rfl ?_
            refine jx_put E f_X0 3 (wx_fou (j := 1) (by decide) (by omega) (by omega)) (by decide) wf_X5_123 rfl rfl rfl (Nat.le_of_ble_eq_true rfl) (wp_fou3 (j := 1) (by decide) (by omega) (by omega)) dX5_loved_54 ?_
            refine jx_eq (ws' := wsX G a (setc x 1 (updI (hdP U (x 0) (21 + 5 * (x 0) 4)) (21 + 5 * f + 3) (100 - (k : Int))))) (congrArg (wsX G a) (by first | rfl | (rw [setc_setc]; rfl) | exact setc_in _ _ _ _ (by decide) | exact setc_in2 _ _ _ _ _ (by decide) (by decide) | (simp only [setc_setc, setc_at]; done) | (simp only [setc_setc, setc_at]; rfl) | (funext d; simp only [setc_app]; (repeat' split) <;> first | rfl | omega))) ?_
            refine jx_aload_n E 1 dX5_loved_57 rfl ?_
            refine jx_get E f_X5 1 (v := .ref (a 13)) wx_obj (by decide) wf_X5_16 rfl dX5_loved_58 ?_
            refine jx_iload_n E 2 dX5_loved_61 rfl ?_
            refine jx_iload_n E 3 dX5_loved_62 rfl ?_
            refine jx_callVe E [vI f, vI n] [] (c_X4_letsGo_1 l G a (setc x 1 (updI (hdP U (x 0) (21 + 5 * (x 0) 4)) (21 + 5 * f + 3) (100 - (k : Int)))) (f := f) (n := n) (VT_up hVt (by omega)) (by unfold inR; omega) (by omega)) mb_X4_letsGo mv_X4_letsGo wl_X5_176 f_X4 (wx_town (j := 1) (by decide)) dX5_loved_63 (fun u4 => ?_)
            refine jx_eq (ws' := wsX G a (setc x 1 u4)) (congrArg (wsX G a) (by first | rfl | (rw [setc_setc]; rfl) | exact setc_in _ _ _ _ (by decide) | exact setc_in2 _ _ _ _ _ (by decide) (by decide) | (simp only [setc_setc, setc_at]; done) | (simp only [setc_setc, setc_at]; rfl) | (funext d; simp only [setc_app]; (repeat' split) <;> first | rfl | omega))) ?_
            refine jx_st (st' := [vI (if vFou (updI (hdP U (x 0) (21 + 5 * (x 0) 4)) (21 + 5 * f + 3) (100 - (k : Int))) f then staysI (updI (hdP U (x 0) (21 + 5 * (x 0) 4)) (21 + 5 * f + 3) (100 - (k : Int))) f n.toNat else 0)]) (by first | rfl | (simp only [setc_at]; done) | (simp only [setc_at]; rfl)) ?_
            refine jx_if_eq (tgt := 71) E dX5_loved_66 (by decide) (fun c5 => ?_) (fun c5 => ?_)
            · skip
              refine jx_iinc E 0 dX5_loved_71 rfl (by decide) [(3, vI (100 - (k : Int) + 1)), (0, .ref (a 0)), (1, vI f), (2, vI n)] rfl ?_
              refine jx_goto (tgt := 27) E dX5_loved_74 (by decide) ?_
              obtain ⟨k', rfl⟩ : ∃ k', k = k' + 1 := ⟨k - 1, by omega⟩
              refine jx_lve (congrArg (fun z => [(3, vI z), (0, Value.ref (a 0)), (1, vI f), (2, vI n)]) (show 100 - ((k' + 1 : Nat) : Int) + 1 = 100 - (k' : Int) by omega)) ?_
              rw [lovedF, show 99 - (k' : Int) = 100 - ((k' + 1 : Nat) : Int) by omega, if_neg (by omega)] at hQ
              exact ih k' _ (by omega) (by omega) hQ
            · skip
              have hFd : RR = 100 - (k : Int) := by
                rw [← hQ]
                obtain ⟨k', e⟩ : ∃ k', k = k' + 1 := ⟨k - 1, by omega⟩
                subst e
                rw [lovedF, show 99 - (k' : Int) = 100 - ((k' + 1 : Nat) : Int) by omega, if_pos (by omega)]
              refine jx_iload_n E 0 dX5_loved_69 rfl ?_
              exact jx_iretE E hr dX5_loved_70 (by have hV : vFou (x 0) f ∧ v100 n := (by omega); simp only [lovedR, if_pos hV]; rw [hRR, hFd]; simp only [noneR]; omega) (u4) (by have hV : vFou (x 0) f ∧ v100 n := (by omega); have e : (lovedR (x 0) f n) = 100 - (k : Int) := (by simp only [lovedR, if_pos hV]; rw [hRR, hFd]; simp only [noneR]; omega); rw [e, endX_n (by omega)])
      refine jx_eq (ws' := wsX G a (setc x 1 (x 1))) (congrArg (wsX G a) (setc_self x 1).symm) ?_
      exact LP27 101 100 _ (by omega) (by omega) hRR
    · skip
      refine jx_aload_n E 0 dX5_loved_18 rfl ?_
      refine jx_ldc E wc_X5_53 dX5_loved_19 ?_
      refine jx_callVi E [vI (-1000000001)] [] (c_X5_found l G a x (f := (-1000000001)) (by omega)) mb_X5_found mv_X5_found wl_X5_54 f_X5 wx_obj dX5_loved_21 ?_
      exact jx_iretE E hr dX5_loved_24 (by have hV : ¬ (vFou (x 0) f ∧ v100 n) := (by omega); simp only [lovedR, if_neg hV]) (x 1) (by have hV : ¬ (vFou (x 0) f ∧ v100 n) := (by omega); simp only [lovedR, if_neg hV]; rw [endX_f (by decide)]; exact congrArg (wsX G a) (setc_self _ 1).symm)
set_option maxHeartbeats 4000000 in
theorem c_X5_kind (l : Launch) (G : GT) (a : Nat → Nat) (x : MS) {f : Int} (h1 : VT 99999 (x 0)) (h2 : inR f) : CtE l G yX5_kind cX5_kind 6 (some .int) 6 [.ref (a 0), vI f] (wsX G a x) (kindR (x 0) f) (fun u9 => wsX G a (setc (endX x (kindR (x 0) f)) 1 u9)) := by
  obtain ⟨v0, v1, v2, v3, v4, v5, v6, v7⟩ := id h1
  unfold inR at h2
  refine CtE.of (by decide) (Nat.le_of_ble_eq_true rfl) ?_
  intro p e s m args below meth c A E hr
  refine jx_lv (lv' := [(0, .ref (a 0)), (1, vI f)]) [0, 1] rfl ?_
  refine jx_aload_n E 0 dX5_kind_0 rfl ?_
  refine jx_get E f_X5 0 (v := .ref (a 1)) wx_obj (by decide) wf_X5_10 rfl dX5_kind_1 ?_
  refine jx_iload_n E 1 dX5_kind_4 rfl ?_
  refine jx_callVi E [vI f] [] (c_X4_has_0 l G a x (f := f) (by unfold inR; omega) v4) mb_X4_has mv_X4_has wl_X5_101 f_X4 (wx_town (j := 0) (by decide)) dX5_kind_5 ?_
  refine jx_if_ne (tgt := 18) E dX5_kind_8 (by decide) (fun c1 => ?_) (fun c1 => ?_)
  · skip
    refine jx_iconst E dX5_kind_18 ?_
    refine jx_istore_n E dX5_kind_19 (by decide) [(2, vI 0), (0, .ref (a 0)), (1, vI f)] rfl ?_
    refine jx_iconst E dX5_kind_20 ?_
    refine jx_istore_n E dX5_kind_21 (by decide) [(3, vI (-1)), (2, vI 0), (0, .ref (a 0)), (1, vI f)] rfl ?_
    refine jx_iconst E dX5_kind_22 ?_
    refine jx_istore E dX5_kind_23 (by decide) [(4, vI 0), (3, vI (-1)), (2, vI 0), (0, .ref (a 0)), (1, vI f)] rfl ?_
    have LP25 : ∀ (n2 : Nat) (k : Nat) (bs : Int) (ms : Int) (U : Int → Int), (k ≤ 6) → (6 - k < n2) → (bs = (kdF (x 0) f k).1) → (ms = (kdF (x 0) f k).2) → (0 ≤ bs ∧ bs ≤ 5 ∧ -1 ≤ ms ∧ ms ≤ 401) → JX p l e (rmL 6) s m args below meth c 6 G A 0 0 (QE below args s G A (kindR (x 0) f) (fun u9 => wsX G a (setc (endX x (kindR (x 0) f)) 1 u9))) (wsX G a (setc x 1 U)) 25 [(4, vI (k : Int)), (3, vI ms), (2, vI bs), (0, .ref (a 0)), (1, vI f)] [] := by
      intro n2
      induction n2 with
      | zero => intro k bs ms U q1 q2 hb hm hr2; exfalso; omega
      | succ n2 ih =>
        intro k bs ms U q1 q2 hb hm hr2
        refine jx_iload E 0 dX5_kind_25 rfl ?_
        refine jx_bipush E dX5_kind_27 ?_
        refine jx_icmp_ge (tgt := 85) E dX5_kind_29 (by decide) (fun c2 => ?_) (fun c2 => ?_)
        · skip
          have hN : bs = (kdF (x 0) f 6).1 := by rw [hb, show k = 6 by omega]
          refine jx_iload_n E 2 dX5_kind_85 rfl ?_
          exact jx_iretE E hr dX5_kind_86 (by have hV : vFou (x 0) f := (by omega); simp only [kindR, if_pos hV]; rw [← hN]) (U) (by have hV : vFou (x 0) f := (by omega); have e : (kindR (x 0) f) = bs := (by simp only [kindR, if_pos hV]; rw [← hN]); rw [e, endX_n (by omega)])
        · skip
          have hz := VT_fou h1 (i := f) (f := 0) (v := (k : Int)) (by omega) (by omega) (by omega)
          rw [Int.add_zero] at hz
          have hof := off_in f 401 (updI (x 0) (21 + 5 * f) (k : Int)) (by omega)
          refine jx_aload_n E 3 dX5_kind_32 rfl ?_
          refine jx_get E f_X5 1 (v := .ref (a 13)) wx_obj (by decide) wf_X5_16 rfl dX5_kind_33 ?_
          refine jx_aload_n E 3 dX5_kind_36 rfl ?_
          refine jx_get E f_X5 0 (v := .ref (a 1)) wx_obj (by decide) wf_X5_10 rfl dX5_kind_37 ?_
          refine jx_callVv E [.ref (a 1)] [] (c_X4_become_10 l G a (setc x 1 U)  v4) mb_X4_become mv_X4_become wl_X5_166 f_X4 (wx_town (j := 1) (by decide)) dX5_kind_40 ?_
          refine jx_eq (ws' := wsX G a (setc x 1 (hdP U (x 0) (21 + 5 * (x 0) 4)))) (congrArg (wsX G a) (by first | rfl | (rw [setc_setc]; rfl) | exact setc_in _ _ _ _ (by decide) | exact setc_in2 _ _ _ _ _ (by decide) (by decide) | (simp only [setc_setc, setc_at]; done) | (simp only [setc_setc, setc_at]; rfl) | (funext d; simp only [setc_app]; (repeat' split) <;> first | rfl | omega))) ?_
          have hE : EQ (hdP U (x 0) (21 + 5 * (x 0) 4)) (x 0) := EQ.hd v4
          have hE2 := hE.up (k := 21 + 5 * f) (k : Int) (by omega)
          have hVt := hE2.snd hz
          have he4 : updI (hdP U (x 0) (21 + 5 * (x 0) 4)) (21 + 5 * f) (k : Int) 4 = x 0 4 := by rw [updI_ne _ _ (by omega)]; exact hE.f4
          have hu4 : updI (x 0) (21 + 5 * f) (k : Int) 4 = x 0 4 := updI_ne _ _ (by omega)
          have g0 := EQ_off (f := f) 401 hE2 hz (by rw [hu4]; omega)
          have g1 : (if vFou (updI (hdP U (x 0) (21 + 5 * (x 0) 4)) (21 + 5 * f) (k : Int)) f then offF f 401 (updI (hdP U (x 0) (21 + 5 * (x 0) 4)) (21 + 5 * f) (k : Int)) else 401) = offF f 401 (updI (x 0) (21 + 5 * f) (k : Int)) := by rw [if_pos (by omega), g0]
          refine jx_aload_n E 3 dX5_kind_43 rfl ?_
          refine jx_get E f_X5 1 (v := .ref (a 13)) wx_obj (by decide) wf_X5_16 rfl dX5_kind_44 ?_
          refine jx_get E f_X4 6 (v := .ref (a 16)) (wx_town (j := 1) (by decide)) (by decide) wf_X5_104 rfl dX5_kind_47 ?_
          refine jx_iload_n E 4 dX5_kind_50 rfl ?_
          refine jx_aald E 2 (y := a (5 + 12 * 1 + f.toNat)) (wx_row (j := 1) (by decide)) rfl rfl (by omega) (by omega) (by decide) dX5_kind_51 ?_
          refine jx_iload E 0 dX5_kind_52 rfl ?_
          refine jx_put E f_X0 0 (wx_fou (j := 1) (by decide) (by omega) (by omega)) (by decide) wf_X5_112 rfl rfl rfl (Nat.le_of_ble_eq_true rfl) (wp_fou0 (j := 1) (by decide) (by omega) (by omega)) dX5_kind_54 ?_
          refine jx_eq (ws' := wsX G a (setc x 1 (updI (hdP U (x 0) (21 + 5 * (x 0) 4)) (21 + 5 * f) (k : Int)))) (congrArg (wsX G a) (by first | rfl | (rw [setc_setc]; rfl) | exact setc_in _ _ _ _ (by decide) | exact setc_in2 _ _ _ _ _ (by decide) (by decide) | (simp only [setc_setc, setc_at]; done) | (simp only [setc_setc, setc_at]; rfl) | (funext d; simp only [setc_app]; (repeat' split) <;> first | rfl | omega))) ?_
          refine jx_aload_n E 3 dX5_kind_57 rfl ?_
          refine jx_get E f_X5 1 (v := .ref (a 13)) wx_obj (by decide) wf_X5_16 rfl dX5_kind_58 ?_
          refine jx_iload_n E 4 dX5_kind_61 rfl ?_
          refine jx_callVe E [vI f] [] (c_X4_daysTillOff_1 l G a (setc x 1 (updI (hdP U (x 0) (21 + 5 * (x 0) 4)) (21 + 5 * f) (k : Int))) (f := f) (VT_up hVt (by omega)) (by unfold inR; omega)) mb_X4_daysTillOff mv_X4_daysTillOff wl_X5_173 f_X4 (wx_town (j := 1) (by decide)) dX5_kind_62 (fun u3 => ?_)
          refine jx_eq (ws' := wsX G a (setc x 1 u3)) (congrArg (wsX G a) (by first | rfl | (rw [setc_setc]; rfl) | exact setc_in _ _ _ _ (by decide) | exact setc_in2 _ _ _ _ _ (by decide) (by decide) | (simp only [setc_setc, setc_at]; done) | (simp only [setc_setc, setc_at]; rfl) | (funext d; simp only [setc_app]; (repeat' split) <;> first | rfl | omega))) ?_
          refine jx_st (st' := [vI (if vFou (updI (hdP U (x 0) (21 + 5 * (x 0) 4)) (21 + 5 * f) (k : Int)) f then offF f 401 (updI (hdP U (x 0) (21 + 5 * (x 0) 4)) (21 + 5 * f) (k : Int)) else 401)]) (by first | rfl | (simp only [setc_at]; done) | (simp only [setc_at]; rfl)) ?_
          refine jx_istore E dX5_kind_65 (by decide) [(5, vI (if vFou (updI (hdP U (x 0) (21 + 5 * (x 0) 4)) (21 + 5 * f) (k : Int)) f then offF f 401 (updI (hdP U (x 0) (21 + 5 * (x 0) 4)) (21 + 5 * f) (k : Int)) else 401)), (4, vI (k : Int)), (3, vI ms), (2, vI bs), (0, .ref (a 0)), (1, vI f)] rfl ?_
          refine jx_iload E 0 dX5_kind_67 rfl ?_
          refine jx_iload_n E 2 dX5_kind_69 rfl ?_
          refine jx_icmp_le (tgt := 79) E dX5_kind_70 (by decide) (fun c4 => ?_) (fun c4 => ?_)
          · skip
            refine jx_iinc E 1 dX5_kind_79 rfl (by decide) [(4, vI ((k : Int) + 1)), (5, vI (if vFou (updI (hdP U (x 0) (21 + 5 * (x 0) 4)) (21 + 5 * f) (k : Int)) f then offF f 401 (updI (hdP U (x 0) (21 + 5 * (x 0) 4)) (21 + 5 * f) (k : Int)) else 401)), (3, vI ms), (2, vI bs), (0, .ref (a 0)), (1, vI f)] rfl ?_
            refine jx_goto (tgt := 25) E dX5_kind_82 (by decide) ?_
            refine jx_lv (lv' := [(4, vI ((k : Int) + 1)), (3, vI ms), (2, vI bs), (0, .ref (a 0)), (1, vI f)]) [0, 2, 3, 4, 5] rfl ?_
            exact ih (k + 1) _ _ _ (by omega) (by omega) (by rw [kdF_1]; omega) (by rw [kdF_2]; omega) (by omega)
          · skip
            refine jx_iload E 0 dX5_kind_73 rfl ?_
            refine jx_istore_n E dX5_kind_75 (by decide) [(3, vI (if vFou (updI (hdP U (x 0) (21 + 5 * (x 0) 4)) (21 + 5 * f) (k : Int)) f then offF f 401 (updI (hdP U (x 0) (21 + 5 * (x 0) 4)) (21 + 5 * f) (k : Int)) else 401)), (5, vI (if vFou (updI (hdP U (x 0) (21 + 5 * (x 0) 4)) (21 + 5 * f) (k : Int)) f then offF f 401 (updI (hdP U (x 0) (21 + 5 * (x 0) 4)) (21 + 5 * f) (k : Int)) else 401)), (4, vI (k : Int)), (2, vI bs), (0, .ref (a 0)), (1, vI f)] rfl ?_
            refine jx_iload E 2 dX5_kind_76 rfl ?_
            refine jx_istore_n E dX5_kind_78 (by decide) [(2, vI (k : Int)), (3, vI (if vFou (updI (hdP U (x 0) (21 + 5 * (x 0) 4)) (21 + 5 * f) (k : Int)) f then offF f 401 (updI (hdP U (x 0) (21 + 5 * (x 0) 4)) (21 + 5 * f) (k : Int)) else 401)), (5, vI (if vFou (updI (hdP U (x 0) (21 + 5 * (x 0) 4)) (21 + 5 * f) (k : Int)) f then offF f 401 (updI (hdP U (x 0) (21 + 5 * (x 0) 4)) (21 + 5 * f) (k : Int)) else 401)), (4, vI (k : Int)), (0, .ref (a 0)), (1, vI f)] rfl ?_
            refine jx_iinc E 3 dX5_kind_79 rfl (by decide) [(4, vI ((k : Int) + 1)), (2, vI (k : Int)), (3, vI (if vFou (updI (hdP U (x 0) (21 + 5 * (x 0) 4)) (21 + 5 * f) (k : Int)) f then offF f 401 (updI (hdP U (x 0) (21 + 5 * (x 0) 4)) (21 + 5 * f) (k : Int)) else 401)), (5, vI (if vFou (updI (hdP U (x 0) (21 + 5 * (x 0) 4)) (21 + 5 * f) (k : Int)) f then offF f 401 (updI (hdP U (x 0) (21 + 5 * (x 0) 4)) (21 + 5 * f) (k : Int)) else 401)), (0, .ref (a 0)), (1, vI f)] rfl ?_
            refine jx_goto (tgt := 25) E dX5_kind_82 (by decide) ?_
            refine jx_lv (lv' := [(4, vI ((k : Int) + 1)), (3, vI (if vFou (updI (hdP U (x 0) (21 + 5 * (x 0) 4)) (21 + 5 * f) (k : Int)) f then offF f 401 (updI (hdP U (x 0) (21 + 5 * (x 0) 4)) (21 + 5 * f) (k : Int)) else 401)), (2, vI (k : Int)), (0, .ref (a 0)), (1, vI f)]) [0, 2, 1, 4, 5] rfl ?_
            exact ih (k + 1) _ _ _ (by omega) (by omega) (by rw [kdF_1]; omega) (by rw [kdF_2]; omega) (by omega)
    refine jx_eq (ws' := wsX G a (setc x 1 (x 1))) (congrArg (wsX G a) (setc_self x 1).symm) ?_
    exact LP25 7 0 _ _ _ (by omega) (by omega) rfl rfl (by omega)
  · skip
    refine jx_aload_n E 0 dX5_kind_11 rfl ?_
    refine jx_ldc E wc_X5_53 dX5_kind_12 ?_
    refine jx_callVi E [vI (-1000000001)] [] (c_X5_found l G a x (f := (-1000000001)) (by omega)) mb_X5_found mv_X5_found wl_X5_54 f_X5 wx_obj dX5_kind_14 ?_
    exact jx_iretE E hr dX5_kind_17 (by have hV : ¬ (vFou (x 0) f) := (by omega); simp only [kindR, if_neg hV]) (x 1) (by have hV : ¬ (vFou (x 0) f) := (by omega); simp only [kindR, if_neg hV]; rw [endX_f (by decide)]; exact congrArg (wsX G a) (setc_self _ 1).symm)
set_option maxHeartbeats 4000000 in
theorem c_X5_rain (l : Launch) (G : GT) (a : Nat → Nat) (x : MS) {n : Int} (h1 : VT 99999 (x 0)) (h2 : inR n) : CtE l G yX5_rain cX5_rain 6 (some .int) 6 [.ref (a 0), vI n] (wsX G a x) (rainR (x 0) n) (fun u9 => wsX G a (setc (endX x (rainR (x 0) n)) 1 u9)) := by
  obtain ⟨v0, v1, v2, v3, v4, v5, v6, v7⟩ := id h1
  unfold inR at h2
  refine CtE.of (by decide) (Nat.le_of_ble_eq_true rfl) ?_
  intro p e s m args below meth c A E hr
  refine jx_lv (lv' := [(0, .ref (a 0)), (1, vI n)]) [0, 1] rfl ?_
  refine jx_iload_n E 1 dX5_rain_0 rfl ?_
  refine jx_callSi E [vI n] [] (c_X5_isTried l G (wsX G a x) (n := n) (by unfold inR; omega)) mb_X5_isTried ms_X5_isTried wl_X5_154 dX5_rain_1 ?_
  refine jx_if_ne (tgt := 14) E dX5_rain_4 (by decide) (fun c1 => ?_) (fun c1 => ?_)
  · skip
    refine jx_iconst E dX5_rain_14 ?_
    refine jx_istore_n E dX5_rain_15 (by decide) [(2, vI 0), (0, .ref (a 0)), (1, vI n)] rfl ?_
    refine jx_iconst E dX5_rain_16 ?_
    refine jx_istore_n E dX5_rain_17 (by decide) [(3, vI (-1)), (2, vI 0), (0, .ref (a 0)), (1, vI n)] rfl ?_
    refine jx_iconst E dX5_rain_18 ?_
    refine jx_istore E dX5_rain_19 (by decide) [(4, vI 0), (3, vI (-1)), (2, vI 0), (0, .ref (a 0)), (1, vI n)] rfl ?_
    have LP21 : ∀ (n2 : Nat) (k : Nat) (bs : Int) (ms : Int) (U : Int → Int), (k ≤ 8) → (8 - k < n2) → (bs = (rnF (x 0) n.toNat k).1) → (ms = (rnF (x 0) n.toNat k).2) → (0 ≤ bs ∧ bs ≤ 7 ∧ -1 ≤ ms ∧ ms ≤ 400) → JX p l e (rmL 6) s m args below meth c 6 G A 0 0 (QE below args s G A (rainR (x 0) n) (fun u9 => wsX G a (setc (endX x (rainR (x 0) n)) 1 u9))) (wsX G a (setc x 1 U)) 21 [(4, vI (k : Int)), (3, vI ms), (2, vI bs), (0, .ref (a 0)), (1, vI n)] [] := by
      intro n2
      induction n2 with
      | zero => intro k bs ms U q1 q2 hb hm hr2; exfalso; omega
      | succ n2 ih =>
        intro k bs ms U q1 q2 hb hm hr2
        refine jx_iload E 0 dX5_rain_21 rfl ?_
        refine jx_bipush E dX5_rain_23 ?_
        refine jx_icmp_ge (tgt := 102) E dX5_rain_25 (by decide) (fun c2 => ?_) (fun c2 => ?_)
        · skip
          have hN : bs = (rnF (x 0) n.toNat 8).1 := by rw [hb, show k = 8 by omega]
          refine jx_iload_n E 2 dX5_rain_102 rfl ?_
          exact jx_iretE E hr dX5_rain_103 (by have hV : v100 n := (by omega); simp only [rainR, if_pos hV]; rw [← hN]) (U) (by have hV : v100 n := (by omega); have e : (rainR (x 0) n) = bs := (by simp only [rainR, if_pos hV]; rw [← hN]); rw [e, endX_n (by omega)])
        · skip
          have hr5 := v5 (k : Int) (by omega) (by omega)
          have hz := VT_rainw h1 (k := (k : Int)) (v := (min 99 (x 0 (5 + (k : Int)) + 10))) (by omega) (by omega)
          have hz2 := VT_days hz n.toNat
          have hzn := noise_in hz2
          refine jx_aload_n E 3 dX5_rain_28 rfl ?_
          refine jx_get E f_X5 1 (v := .ref (a 13)) wx_obj (by decide) wf_X5_16 rfl dX5_rain_29 ?_
          refine jx_aload_n E 3 dX5_rain_32 rfl ?_
          refine jx_get E f_X5 0 (v := .ref (a 1)) wx_obj (by decide) wf_X5_10 rfl dX5_rain_33 ?_
          refine jx_callVv E [.ref (a 1)] [] (c_X4_become_10 l G a (setc x 1 U)  v4) mb_X4_become mv_X4_become wl_X5_166 f_X4 (wx_town (j := 1) (by decide)) dX5_rain_36 ?_
          refine jx_eq (ws' := wsX G a (setc x 1 (hdP U (x 0) (21 + 5 * (x 0) 4)))) (congrArg (wsX G a) (by first | rfl | (rw [setc_setc]; rfl) | exact setc_in _ _ _ _ (by decide) | exact setc_in2 _ _ _ _ _ (by decide) (by decide) | (simp only [setc_setc, setc_at]; done) | (simp only [setc_setc, setc_at]; rfl) | (funext d; simp only [setc_app]; (repeat' split) <;> first | rfl | omega))) ?_
          have hE : EQ (hdP U (x 0) (21 + 5 * (x 0) 4)) (x 0) := EQ.hd v4
          have g5 : (hdP U (x 0) (21 + 5 * (x 0) 4)) (5 + (k : Int)) = x 0 (5 + (k : Int)) := hE.lo (by omega) (by omega)
          have hE2 := hE.up (k := 5 + (k : Int)) (min 99 (x 0 (5 + (k : Int)) + 10)) (by omega)
          have hVt := hE2.snd hz
          have hdE := hE2.days hz n.toNat
          have hVd := hdE.snd hz2
          have g1 := hdE.noise
          refine jx_aload_n E 3 dX5_rain_39 rfl ?_
          refine jx_get E f_X5 1 (v := .ref (a 13)) wx_obj (by decide) wf_X5_16 rfl dX5_rain_40 ?_
          refine jx_get E f_X4 4 (v := .ref (a 14)) (wx_town (j := 1) (by decide)) (by decide) wf_X5_68 rfl dX5_rain_43 ?_
          refine jx_iload E 0 dX5_rain_46 rfl ?_
          refine jx_bipush E dX5_rain_48 ?_
          refine jx_aload_n E 3 dX5_rain_50 rfl ?_
          refine jx_get E f_X5 1 (v := .ref (a 13)) wx_obj (by decide) wf_X5_16 rfl dX5_rain_51 ?_
          refine jx_get E f_X4 4 (v := .ref (a 14)) (wx_town (j := 1) (by decide)) (by decide) wf_X5_68 rfl dX5_rain_54 ?_
          refine jx_iload E 0 dX5_rain_57 rfl ?_
          refine jx_iald E (v := (hdP U (x 0) (21 + 5 * (x 0) 4)) (5 + (k : Int))) (wx_rain (j := 1) (by decide)) (rowI_at (by omega) (by omega)) (by omega) (by omega) (by decide) dX5_rain_59 ?_
          refine jx_bipush E dX5_rain_60 ?_
          refine jx_iadd E dX5_rain_62 ?_
          refine jx_min E wl_X5_179 mm_min dX5_rain_63 ?_
          refine jx_iast E (wx_rain (j := 1) (by decide)) (wp_rain (j := 1) (by decide) (by omega) (by omega)) (by omega) (by omega) (by decide) dX5_rain_66 ?_
          refine jx_eq (ws' := wsX G a (setc x 1 (updI (hdP U (x 0) (21 + 5 * (x 0) 4)) (5 + (k : Int)) (min 99 (((hdP U (x 0) (21 + 5 * (x 0) 4)) (5 + (k : Int))) + 10))))) (congrArg (wsX G a) (by first | rfl | (rw [setc_setc]; rfl) | exact setc_in _ _ _ _ (by decide) | exact setc_in2 _ _ _ _ _ (by decide) (by decide) | (simp only [setc_setc, setc_at]; done) | (simp only [setc_setc, setc_at]; rfl) | (funext d; simp only [setc_app]; (repeat' split) <;> first | rfl | omega))) ?_
          refine jx_eq (ws' := wsX G a (setc x 1 (updI (hdP U (x 0) (21 + 5 * (x 0) 4)) (5 + (k : Int)) (min 99 (x 0 (5 + (k : Int)) + 10))))) (congrArg (fun z => wsX G a (setc x 1 (updI (hdP U (x 0) (21 + 5 * (x 0) 4)) (5 + (k : Int)) (min 99 (z + 10))))) g5) ?_
          refine jx_aload_n E 3 dX5_rain_67 rfl ?_
          refine jx_get E f_X5 1 (v := .ref (a 13)) wx_obj (by decide) wf_X5_16 rfl dX5_rain_68 ?_
          refine jx_iload_n E 4 dX5_rain_71 rfl ?_
          refine jx_callVv E [vI n] [] (c_X4_passDays_1 l G a (setc x 1 (updI (hdP U (x 0) (21 + 5 * (x 0) 4)) (5 + (k : Int)) (min 99 (x 0 (5 + (k : Int)) + 10)))) (n := n) (VT_up hVt (by omega)) (by omega)) mb_X4_passDays mv_X4_passDays wl_X5_159 f_X4 (wx_town (j := 1) (by decide)) dX5_rain_72 ?_
          refine jx_eq (ws' := wsX G a (setc x 1 (daysP n.toNat (updI (hdP U (x 0) (21 + 5 * (x 0) 4)) (5 + (k : Int)) (min 99 (x 0 (5 + (k : Int)) + 10)))))) (congrArg (wsX G a) (by first | rfl | (rw [setc_setc]; rfl) | exact setc_in _ _ _ _ (by decide) | exact setc_in2 _ _ _ _ _ (by decide) (by decide) | (simp only [setc_setc, setc_at]; done) | (simp only [setc_setc, setc_at]; rfl) | (funext d; simp only [setc_app]; (repeat' split) <;> first | rfl | omega))) ?_
          refine jx_aload_n E 3 dX5_rain_75 rfl ?_
          refine jx_get E f_X5 1 (v := .ref (a 13)) wx_obj (by decide) wf_X5_16 rfl dX5_rain_76 ?_
          refine jx_callVi E [] [] (c_X4_noise_1 l G a (setc x 1 (daysP n.toNat (updI (hdP U (x 0) (21 + 5 * (x 0) 4)) (5 + (k : Int)) (min 99 (x 0 (5 + (k : Int)) + 10)))))  (VT_up hVd (by omega))) mb_X4_noise mv_X4_noise wl_X5_84 f_X4 (wx_town (j := 1) (by decide)) dX5_rain_79 ?_
          refine jx_st (st' := [vI (noiseP (daysP n.toNat (updI (hdP U (x 0) (21 + 5 * (x 0) 4)) (5 + (k : Int)) (min 99 (x 0 (5 + (k : Int)) + 10)))))]) (by first | rfl | (simp only [setc_at]; done) | (simp only [setc_at]; rfl)) ?_
          refine jx_istore E dX5_rain_82 (by decide) [(5, vI (noiseP (daysP n.toNat (updI (hdP U (x 0) (21 + 5 * (x 0) 4)) (5 + (k : Int)) (min 99 (x 0 (5 + (k : Int)) + 10)))))), (4, vI (k : Int)), (3, vI ms), (2, vI bs), (0, .ref (a 0)), (1, vI n)] rfl ?_
          refine jx_iload E 0 dX5_rain_84 rfl ?_
          refine jx_iload_n E 2 dX5_rain_86 rfl ?_
          refine jx_icmp_le (tgt := 96) E dX5_rain_87 (by decide) (fun c3 => ?_) (fun c3 => ?_)
          · skip
            refine jx_iinc E 1 dX5_rain_96 rfl (by decide) [(4, vI ((k : Int) + 1)), (5, vI (noiseP (daysP n.toNat (updI (hdP U (x 0) (21 + 5 * (x 0) 4)) (5 + (k : Int)) (min 99 (x 0 (5 + (k : Int)) + 10)))))), (3, vI ms), (2, vI bs), (0, .ref (a 0)), (1, vI n)] rfl ?_
            refine jx_goto (tgt := 21) E dX5_rain_99 (by decide) ?_
            refine jx_lv (lv' := [(4, vI ((k : Int) + 1)), (3, vI ms), (2, vI bs), (0, .ref (a 0)), (1, vI n)]) [0, 2, 3, 4, 5] rfl ?_
            exact ih (k + 1) _ _ _ (by omega) (by omega) (by rw [rnF_1]; omega) (by rw [rnF_2]; omega) (by omega)
          · skip
            refine jx_iload E 0 dX5_rain_90 rfl ?_
            refine jx_istore_n E dX5_rain_92 (by decide) [(3, vI (noiseP (daysP n.toNat (updI (hdP U (x 0) (21 + 5 * (x 0) 4)) (5 + (k : Int)) (min 99 (x 0 (5 + (k : Int)) + 10)))))), (5, vI (noiseP (daysP n.toNat (updI (hdP U (x 0) (21 + 5 * (x 0) 4)) (5 + (k : Int)) (min 99 (x 0 (5 + (k : Int)) + 10)))))), (4, vI (k : Int)), (2, vI bs), (0, .ref (a 0)), (1, vI n)] rfl ?_
            refine jx_iload E 2 dX5_rain_93 rfl ?_
            refine jx_istore_n E dX5_rain_95 (by decide) [(2, vI (k : Int)), (3, vI (noiseP (daysP n.toNat (updI (hdP U (x 0) (21 + 5 * (x 0) 4)) (5 + (k : Int)) (min 99 (x 0 (5 + (k : Int)) + 10)))))), (5, vI (noiseP (daysP n.toNat (updI (hdP U (x 0) (21 + 5 * (x 0) 4)) (5 + (k : Int)) (min 99 (x 0 (5 + (k : Int)) + 10)))))), (4, vI (k : Int)), (0, .ref (a 0)), (1, vI n)] rfl ?_
            refine jx_iinc E 3 dX5_rain_96 rfl (by decide) [(4, vI ((k : Int) + 1)), (2, vI (k : Int)), (3, vI (noiseP (daysP n.toNat (updI (hdP U (x 0) (21 + 5 * (x 0) 4)) (5 + (k : Int)) (min 99 (x 0 (5 + (k : Int)) + 10)))))), (5, vI (noiseP (daysP n.toNat (updI (hdP U (x 0) (21 + 5 * (x 0) 4)) (5 + (k : Int)) (min 99 (x 0 (5 + (k : Int)) + 10)))))), (0, .ref (a 0)), (1, vI n)] rfl ?_
            refine jx_goto (tgt := 21) E dX5_rain_99 (by decide) ?_
            refine jx_lv (lv' := [(4, vI ((k : Int) + 1)), (3, vI (noiseP (daysP n.toNat (updI (hdP U (x 0) (21 + 5 * (x 0) 4)) (5 + (k : Int)) (min 99 (x 0 (5 + (k : Int)) + 10)))))), (2, vI (k : Int)), (0, .ref (a 0)), (1, vI n)]) [0, 2, 1, 4, 5] rfl ?_
            exact ih (k + 1) _ _ _ (by omega) (by omega) (by rw [rnF_1]; omega) (by rw [rnF_2]; omega) (by omega)
    refine jx_eq (ws' := wsX G a (setc x 1 (x 1))) (congrArg (wsX G a) (setc_self x 1).symm) ?_
    exact LP21 9 0 _ _ _ (by omega) (by omega) rfl rfl (by omega)
  · skip
    refine jx_aload_n E 0 dX5_rain_7 rfl ?_
    refine jx_ldc E wc_X5_53 dX5_rain_8 ?_
    refine jx_callVi E [vI (-1000000001)] [] (c_X5_found l G a x (f := (-1000000001)) (by omega)) mb_X5_found mv_X5_found wl_X5_54 f_X5 wx_obj dX5_rain_10 ?_
    exact jx_iretE E hr dX5_rain_13 (by have hV : ¬ (v100 n) := (by omega); simp only [rainR, if_neg hV]) (x 1) (by have hV : ¬ (v100 n) := (by omega); simp only [rainR, if_neg hV]; rw [endX_f (by decide)]; exact congrArg (wsX G a) (setc_self _ 1).symm)
set_option maxHeartbeats 4000000 in
theorem c_X5_enough (l : Launch) (G : GT) (a : Nat → Nat) (x : MS) {n : Int} (h1 : VT 99999 (x 0)) (h2 : inR n) : CtE l G yX5_enough cX5_enough 3 (some .int) 6 [.ref (a 0), vI n] (wsX G a x) (enoughR (x 0) n) (fun u9 => wsX G a (setc (endX x (enoughR (x 0) n)) 1 u9)) := by
  obtain ⟨v0, v1, v2, v3, v4, v5, v6, v7⟩ := id h1
  unfold inR at h2
  have hs0 := stooped_in h1
  obtain ⟨RR, hRR⟩ : ∃ RR, enF (x 0) n.toNat 1000 = RR := ⟨_, rfl⟩
  refine CtE.of (by decide) (Nat.le_of_ble_eq_true rfl) ?_
  intro p e s m args below meth c A E hr
  refine jx_lv (lv' := [(0, .ref (a 0)), (1, vI n)]) [0, 1] rfl ?_
  refine jx_iload_n E 1 dX5_enough_0 rfl ?_
  refine jx_iconst E dX5_enough_1 ?_
  refine jx_icmp_lt (tgt := 11) E dX5_enough_2 (by decide) (fun c1 => ?_) (fun c1 => ?_)
  · skip
    refine jx_aload_n E 0 dX5_enough_11 rfl ?_
    refine jx_ldc E wc_X5_53 dX5_enough_12 ?_
    refine jx_callVi E [vI (-1000000001)] [] (c_X5_found l G a x (f := (-1000000001)) (by omega)) mb_X5_found mv_X5_found wl_X5_54 f_X5 wx_obj dX5_enough_14 ?_
    exact jx_iretE E hr dX5_enough_17 (by have hV : ¬ (1 ≤ n ∧ n ≤ 60) := (by omega); simp only [enoughR, if_neg hV]) (x 1) (by have hV : ¬ (1 ≤ n ∧ n ≤ 60) := (by omega); simp only [enoughR, if_neg hV]; rw [endX_f (by decide)]; exact congrArg (wsX G a) (setc_self _ 1).symm)
  · skip
    refine jx_iload_n E 1 dX5_enough_5 rfl ?_
    refine jx_bipush E dX5_enough_6 ?_
    refine jx_icmp_le (tgt := 18) E dX5_enough_8 (by decide) (fun c2 => ?_) (fun c2 => ?_)
    · skip
      refine jx_iconst E dX5_enough_18 ?_
      refine jx_istore_n E dX5_enough_19 (by decide) [(2, vI 0), (0, .ref (a 0)), (1, vI n)] rfl ?_
      have LP20 : ∀ (n2 : Nat) (k : Nat) (U : Int → Int), (k ≤ 1000) → (k < n2) → (enF (x 0) n.toNat k = RR) → JX p l e (rmL 6) s m args below meth c 3 G A 0 0 (QE below args s G A (enoughR (x 0) n) (fun u9 => wsX G a (setc (endX x (enoughR (x 0) n)) 1 u9))) (wsX G a (setc x 1 U)) 20 [(2, vI (10000 - 10 * (k : Int))), (0, .ref (a 0)), (1, vI n)] [] := by
        intro n2
        induction n2 with
        | zero => intro k U q1 q2 hQ; exfalso; omega
        | succ n2 ih =>
          intro k U q1 q2 hQ
          refine jx_iload_n E 0 dX5_enough_20 rfl ?_
          refine jx_sipush E dX5_enough_21 ?_
          refine jx_icmp_gt (tgt := 65) E dX5_enough_24 (by decide) (fun c3 => ?_) (fun c3 => ?_)
          · skip
            have hFd : RR = -1 := by
              rw [← hQ, show k = 0 by omega]
              rfl
            refine jx_aload_n E 1 dX5_enough_65 rfl ?_
            refine jx_ldc E wc_X5_153 dX5_enough_66 ?_
            refine jx_callVi E [vI (-1000000004)] [] (c_X5_found l G a (setc x 1 U) (f := (-1000000004)) (by omega)) mb_X5_found mv_X5_found wl_X5_54 f_X5 wx_obj dX5_enough_68 ?_
            refine jx_st (st' := [vI (-1000000004)]) (by first | rfl | (simp only [setc_at]; done) | (simp only [setc_at]; rfl)) ?_
            exact jx_iretE E hr dX5_enough_71 (by have hV : 1 ≤ n ∧ n ≤ 60 := (by omega); simp only [enoughR, if_pos hV]; rw [hRR, hFd]; simp only [noneR]; omega) (U) (by have hV : 1 ≤ n ∧ n ≤ 60 := (by omega); have e : (enoughR (x 0) n) = (-1000000004) := (by simp only [enoughR, if_pos hV]; rw [hRR, hFd]; simp only [noneR]; omega); rw [e, endX_f (by decide)]; exact congrArg (wsX G a) (setc_comm _ _ _ (by decide)))
          · skip
            have hz := VT_tank h1 (v := 10000 - 10 * (k : Int)) (by omega)
            have hzs := stooped_in (VT_days hz n.toNat)
            refine jx_aload_n E 1 dX5_enough_27 rfl ?_
            refine jx_get E f_X5 1 (v := .ref (a 13)) wx_obj (by decide) wf_X5_16 rfl dX5_enough_28 ?_
            refine jx_aload_n E 1 dX5_enough_31 rfl ?_
            refine jx_get E f_X5 0 (v := .ref (a 1)) wx_obj (by decide) wf_X5_10 rfl dX5_enough_32 ?_
            refine jx_callVv E [.ref (a 1)] [] (c_X4_become_10 l G a (setc x 1 U)  v4) mb_X4_become mv_X4_become wl_X5_166 f_X4 (wx_town (j := 1) (by decide)) dX5_enough_35 ?_
            refine jx_eq (ws' := wsX G a (setc x 1 (hdP U (x 0) (21 + 5 * (x 0) 4)))) (congrArg (wsX G a) (by first | rfl | (rw [setc_setc]; rfl) | exact setc_in _ _ _ _ (by decide) | exact setc_in2 _ _ _ _ _ (by decide) (by decide) | (simp only [setc_setc, setc_at]; done) | (simp only [setc_setc, setc_at]; rfl) | (funext d; simp only [setc_app]; (repeat' split) <;> first | rfl | omega))) ?_
            have hE : EQ (hdP U (x 0) (21 + 5 * (x 0) 4)) (x 0) := EQ.hd v4
            have hE2 := hE.up (k := 1) (10000 - 10 * (k : Int)) (by decide)
            have hVt := hE2.snd hz
            have g0 := (hE2.days hz n.toNat).stooped
            have g1 : stoopedP (updI (hdP U (x 0) (21 + 5 * (x 0) 4)) 1 (10000 - 10 * (k : Int))) = stoopedP (x 0) := hE2.stooped.trans (sum_eq _ (fun i a b => updI_ne _ _ (by omega)))
            have g2 : (if stoopedP (daysP n.toNat (updI (hdP U (x 0) (21 + 5 * (x 0) 4)) 1 (10000 - 10 * (k : Int)))) = stoopedP (updI (hdP U (x 0) (21 + 5 * (x 0) 4)) 1 (10000 - 10 * (k : Int))) then (1 : Int) else 0) = (if stoopedP (daysP n.toNat (updI (x 0) 1 (10000 - 10 * (k : Int)))) = stoopedP (x 0) then 1 else 0) := by rw [g0, g1]
            refine jx_aload_n E 1 dX5_enough_38 rfl ?_
            refine jx_get E f_X5 1 (v := .ref (a 13)) wx_obj (by decide) wf_X5_16 rfl dX5_enough_39 ?_
            refine jx_iload_n E 0 dX5_enough_42 rfl ?_
            refine jx_put E f_X4 1 (wx_town (j := 1) (by decide)) (by decide) wf_X5_58 rfl rfl rfl (Nat.le_of_ble_eq_true rfl) (wp_town1 (j := 1) (by decide)) dX5_enough_43 ?_
            refine jx_eq (ws' := wsX G a (setc x 1 (updI (hdP U (x 0) (21 + 5 * (x 0) 4)) 1 (10000 - 10 * (k : Int))))) (congrArg (wsX G a) (by first | rfl | (rw [setc_setc]; rfl) | exact setc_in _ _ _ _ (by decide) | exact setc_in2 _ _ _ _ _ (by decide) (by decide) | (simp only [setc_setc, setc_at]; done) | (simp only [setc_setc, setc_at]; rfl) | (funext d; simp only [setc_app]; (repeat' split) <;> first | rfl | omega))) ?_
            refine jx_aload_n E 1 dX5_enough_46 rfl ?_
            refine jx_get E f_X5 1 (v := .ref (a 13)) wx_obj (by decide) wf_X5_16 rfl dX5_enough_47 ?_
            refine jx_iload_n E 2 dX5_enough_50 rfl ?_
            refine jx_callVe E [vI n] [] (c_X4_letsAllGo_1 l G a (setc x 1 (updI (hdP U (x 0) (21 + 5 * (x 0) 4)) 1 (10000 - 10 * (k : Int)))) (n := n) (VT_up hVt (by omega)) (by omega)) mb_X4_letsAllGo mv_X4_letsAllGo wl_X5_185 f_X4 (wx_town (j := 1) (by decide)) dX5_enough_51 (fun u4 => ?_)
            refine jx_eq (ws' := wsX G a (setc x 1 u4)) (congrArg (wsX G a) (by first | rfl | (rw [setc_setc]; rfl) | exact setc_in _ _ _ _ (by decide) | exact setc_in2 _ _ _ _ _ (by decide) (by decide) | (simp only [setc_setc, setc_at]; done) | (simp only [setc_setc, setc_at]; rfl) | (funext d; simp only [setc_app]; (repeat' split) <;> first | rfl | omega))) ?_
            refine jx_st (st' := [vI (if stoopedP (daysP n.toNat (updI (hdP U (x 0) (21 + 5 * (x 0) 4)) 1 (10000 - 10 * (k : Int)))) = stoopedP (updI (hdP U (x 0) (21 + 5 * (x 0) 4)) 1 (10000 - 10 * (k : Int))) then 1 else 0)]) (by first | rfl | (simp only [setc_at]; done) | (simp only [setc_at]; rfl)) ?_
            refine jx_if_eq (tgt := 59) E dX5_enough_54 (by decide) (fun c5 => ?_) (fun c5 => ?_)
            · skip
              refine jx_iinc E 0 dX5_enough_59 rfl (by decide) [(2, vI (10000 - 10 * (k : Int) + 10)), (0, .ref (a 0)), (1, vI n)] rfl ?_
              refine jx_goto (tgt := 20) E dX5_enough_62 (by decide) ?_
              obtain ⟨k', rfl⟩ : ∃ k', k = k' + 1 := ⟨k - 1, by omega⟩
              refine jx_lve (congrArg (fun z => [(2, vI z), (0, Value.ref (a 0)), (1, vI n)]) (show 10000 - 10 * ((k' + 1 : Nat) : Int) + 10 = 10000 - 10 * (k' : Int) by omega)) ?_
              rw [enF, show 9990 - 10 * (k' : Int) = 10000 - 10 * ((k' + 1 : Nat) : Int) by omega, if_neg (by omega)] at hQ
              exact ih k' _ (by omega) (by omega) hQ
            · skip
              have hFd : RR = 10000 - 10 * (k : Int) := by
                rw [← hQ]
                obtain ⟨k', e⟩ : ∃ k', k = k' + 1 := ⟨k - 1, by omega⟩
                subst e
                rw [enF, show 9990 - 10 * (k' : Int) = 10000 - 10 * ((k' + 1 : Nat) : Int) by omega, if_pos (by omega)]
              refine jx_iload_n E 0 dX5_enough_57 rfl ?_
              exact jx_iretE E hr dX5_enough_58 (by have hV : 1 ≤ n ∧ n ≤ 60 := (by omega); simp only [enoughR, if_pos hV]; rw [hRR, hFd]; simp only [noneR]; omega) (u4) (by have hV : 1 ≤ n ∧ n ≤ 60 := (by omega); have e : (enoughR (x 0) n) = 10000 - 10 * (k : Int) := (by simp only [enoughR, if_pos hV]; rw [hRR, hFd]; simp only [noneR]; omega); rw [e, endX_n (by omega)])
      refine jx_eq (ws' := wsX G a (setc x 1 (x 1))) (congrArg (wsX G a) (setc_self x 1).symm) ?_
      exact LP20 1001 1000 _ (by omega) (by omega) hRR
    · skip
      refine jx_aload_n E 0 dX5_enough_11 rfl ?_
      refine jx_ldc E wc_X5_53 dX5_enough_12 ?_
      refine jx_callVi E [vI (-1000000001)] [] (c_X5_found l G a x (f := (-1000000001)) (by omega)) mb_X5_found mv_X5_found wl_X5_54 f_X5 wx_obj dX5_enough_14 ?_
      exact jx_iretE E hr dX5_enough_17 (by have hV : ¬ (1 ≤ n ∧ n ≤ 60) := (by omega); simp only [enoughR, if_neg hV]) (x 1) (by have hV : ¬ (1 ≤ n ∧ n ≤ 60) := (by omega); simp only [enoughR, if_neg hV]; rw [endX_f (by decide)]; exact congrArg (wsX G a) (setc_self _ 1).symm)
set_option maxHeartbeats 4000000 in
theorem c_X5_rule (l : Launch) (G : GT) (a : Nat → Nat) (x : MS) {n : Int} (h1 : VT 99999 (x 0)) (h2 : inR n) : CtE l G yX5_rule cX5_rule 6 (some .int) 6 [.ref (a 0), vI n] (wsX G a x) (ruleR (x 0) n) (fun u9 => wsX G a (setc (endX x (ruleR (x 0) n)) 1 u9)) := by
  obtain ⟨v0, v1, v2, v3, v4, v5, v6, v7⟩ := id h1
  unfold inR at h2
  refine CtE.of (by decide) (Nat.le_of_ble_eq_true rfl) ?_
  intro p e s m args below meth c A E hr
  refine jx_lv (lv' := [(0, .ref (a 0)), (1, vI n)]) [0, 1] rfl ?_
  refine jx_iload_n E 1 dX5_rule_0 rfl ?_
  refine jx_callSi E [vI n] [] (c_X5_isTried l G (wsX G a x) (n := n) (by unfold inR; omega)) mb_X5_isTried ms_X5_isTried wl_X5_154 dX5_rule_1 ?_
  refine jx_if_ne (tgt := 14) E dX5_rule_4 (by decide) (fun c1 => ?_) (fun c1 => ?_)
  · skip
    refine jx_iconst E dX5_rule_14 ?_
    refine jx_istore_n E dX5_rule_15 (by decide) [(2, vI 0), (0, .ref (a 0)), (1, vI n)] rfl ?_
    refine jx_ldc E wc_X5_188 dX5_rule_16 ?_
    refine jx_istore_n E dX5_rule_18 (by decide) [(3, vI 79993), (2, vI 0), (0, .ref (a 0)), (1, vI n)] rfl ?_
    refine jx_iconst E dX5_rule_19 ?_
    refine jx_istore E dX5_rule_20 (by decide) [(4, vI 0), (3, vI 79993), (2, vI 0), (0, .ref (a 0)), (1, vI n)] rfl ?_
    have LP22 : ∀ (n2 : Nat) (k : Nat) (bs : Int) (ms : Int) (U : Int → Int), (k ≤ 21) → (21 - k < n2) → ((k = 0 ∧ bs = 0 ∧ ms = 79993) ∨ (0 < k ∧ bs = (ruF (x 0) n.toNat k).1 ∧ ms = (ruF (x 0) n.toNat k).2 ∧ 0 ≤ bs)) → (k = 0 → (ruF (x 0) n.toNat k).1 = -1) → (-1 ≤ bs ∧ bs ≤ 1000 ∧ 0 ≤ ms ∧ ms ≤ 79993) → JX p l e (rmL 6) s m args below meth c 6 G A 0 0 (QE below args s G A (ruleR (x 0) n) (fun u9 => wsX G a (setc (endX x (ruleR (x 0) n)) 1 u9))) (wsX G a (setc x 1 U)) 22 [(4, vI (50 * (k : Int))), (3, vI ms), (2, vI bs), (0, .ref (a 0)), (1, vI n)] [] := by
      intro n2
      induction n2 with
      | zero => intro k bs ms U q1 q2 hb hm hr2; exfalso; omega
      | succ n2 ih =>
        intro k bs ms U q1 q2 hb hm hr2
        refine jx_iload E 0 dX5_rule_22 rfl ?_
        refine jx_sipush E dX5_rule_24 ?_
        refine jx_icmp_gt (tgt := 85) E dX5_rule_27 (by decide) (fun c2 => ?_) (fun c2 => ?_)
        · skip
          have hN : bs = (ruF (x 0) n.toNat 21).1 := by
            rcases hb with ⟨e, -, -⟩ | ⟨-, e, -, -⟩
            · omega
            · rw [e, show k = 21 by omega]
          refine jx_iload_n E 2 dX5_rule_85 rfl ?_
          exact jx_iretE E hr dX5_rule_86 (by have hV : v100 n := (by omega); simp only [ruleR, if_pos hV]; rw [← hN]) (U) (by have hV : v100 n := (by omega); have e : (ruleR (x 0) n) = bs := (by simp only [ruleR, if_pos hV]; rw [← hN]); rw [e, endX_n (by omega)])
        · skip
          have hz := VT_drought h1 (v := 50 * (k : Int)) (by omega)
          have hz2 := VT_days hz n.toNat
          have hzs := stooped_in hz2
          refine jx_aload_n E 3 dX5_rule_30 rfl ?_
          refine jx_get E f_X5 1 (v := .ref (a 13)) wx_obj (by decide) wf_X5_16 rfl dX5_rule_31 ?_
          refine jx_aload_n E 3 dX5_rule_34 rfl ?_
          refine jx_get E f_X5 0 (v := .ref (a 1)) wx_obj (by decide) wf_X5_10 rfl dX5_rule_35 ?_
          refine jx_callVv E [.ref (a 1)] [] (c_X4_become_10 l G a (setc x 1 U)  v4) mb_X4_become mv_X4_become wl_X5_166 f_X4 (wx_town (j := 1) (by decide)) dX5_rule_38 ?_
          refine jx_eq (ws' := wsX G a (setc x 1 (hdP U (x 0) (21 + 5 * (x 0) 4)))) (congrArg (wsX G a) (by first | rfl | (rw [setc_setc]; rfl) | exact setc_in _ _ _ _ (by decide) | exact setc_in2 _ _ _ _ _ (by decide) (by decide) | (rw [setc_in _ _ _ _ (by decide), setc_in _ _ _ _ (by decide)]; rfl) | (rw [setc_in _ _ _ _ (by decide), setc_setc]; rfl) | (simp only [setc_setc, setc_at]; done) | (simp only [setc_setc, setc_at]; rfl) | (funext d; simp only [setc_app]; (repeat' split) <;> first | rfl | omega))) ?_
          have hE : EQ (hdP U (x 0) (21 + 5 * (x 0) 4)) (x 0) := EQ.hd v4
          have hE2 := hE.up (k := 2) (50 * (k : Int)) (by decide)
          have hVt := hE2.snd hz
          have hdE := hE2.days hz n.toNat
          have hVd := hdE.snd hz2
          have g1 := hdE.stooped
          refine jx_aload_n E 3 dX5_rule_41 rfl ?_
          refine jx_get E f_X5 1 (v := .ref (a 13)) wx_obj (by decide) wf_X5_16 rfl dX5_rule_42 ?_
          refine jx_iload E 0 dX5_rule_45 rfl ?_
          refine jx_put E f_X4 2 (wx_town (j := 1) (by decide)) (by decide) wf_X5_62 rfl rfl rfl (Nat.le_of_ble_eq_true rfl) (wp_town2 (j := 1) (by decide)) dX5_rule_47 ?_
          refine jx_eq (ws' := wsX G a (setc x 1 (updI (hdP U (x 0) (21 + 5 * (x 0) 4)) 2 (50 * (k : Int))))) (congrArg (wsX G a) (by first | rfl | (rw [setc_setc]; rfl) | exact setc_in _ _ _ _ (by decide) | exact setc_in2 _ _ _ _ _ (by decide) (by decide) | (rw [setc_in _ _ _ _ (by decide), setc_in _ _ _ _ (by decide)]; rfl) | (rw [setc_in _ _ _ _ (by decide), setc_setc]; rfl) | (simp only [setc_setc, setc_at]; done) | (simp only [setc_setc, setc_at]; rfl) | (funext d; simp only [setc_app]; (repeat' split) <;> first | rfl | omega))) ?_
          refine jx_aload_n E 3 dX5_rule_50 rfl ?_
          refine jx_get E f_X5 1 (v := .ref (a 13)) wx_obj (by decide) wf_X5_16 rfl dX5_rule_51 ?_
          refine jx_iload_n E 4 dX5_rule_54 rfl ?_
          refine jx_callVv E [vI n] [] (c_X4_passDays_1 l G a (setc x 1 (updI (hdP U (x 0) (21 + 5 * (x 0) 4)) 2 (50 * (k : Int)))) (n := n) (VT_up hVt (by omega)) (by omega)) mb_X4_passDays mv_X4_passDays wl_X5_159 f_X4 (wx_town (j := 1) (by decide)) dX5_rule_55 ?_
          refine jx_eq (ws' := wsX G a (setc x 1 (daysP n.toNat (updI (hdP U (x 0) (21 + 5 * (x 0) 4)) 2 (50 * (k : Int)))))) (congrArg (wsX G a) (by first | rfl | (rw [setc_setc]; rfl) | exact setc_in _ _ _ _ (by decide) | exact setc_in2 _ _ _ _ _ (by decide) (by decide) | (rw [setc_in _ _ _ _ (by decide), setc_in _ _ _ _ (by decide)]; rfl) | (rw [setc_in _ _ _ _ (by decide), setc_setc]; rfl) | (simp only [setc_setc, setc_at]; done) | (simp only [setc_setc, setc_at]; rfl) | (funext d; simp only [setc_app]; (repeat' split) <;> first | rfl | omega))) ?_
          refine jx_aload_n E 3 dX5_rule_58 rfl ?_
          refine jx_get E f_X5 1 (v := .ref (a 13)) wx_obj (by decide) wf_X5_16 rfl dX5_rule_59 ?_
          refine jx_callVi E [] [] (c_X4_stoopedTogether_1 l G a (setc x 1 (daysP n.toNat (updI (hdP U (x 0) (21 + 5 * (x 0) 4)) 2 (50 * (k : Int)))))  (VT_up hVd (by omega))) mb_X4_stoopedTogether mv_X4_stoopedTogether wl_X5_189 f_X4 (wx_town (j := 1) (by decide)) dX5_rule_62 ?_
          refine jx_st (st' := [vI (stoopedP (daysP n.toNat (updI (hdP U (x 0) (21 + 5 * (x 0) 4)) 2 (50 * (k : Int)))))]) (by first | rfl | (simp only [setc_at]; done) | (simp only [setc_at]; rfl)) ?_
          refine jx_istore E dX5_rule_65 (by decide) [(5, vI (stoopedP (daysP n.toNat (updI (hdP U (x 0) (21 + 5 * (x 0) 4)) 2 (50 * (k : Int)))))), (4, vI (50 * (k : Int))), (3, vI ms), (2, vI bs), (0, .ref (a 0)), (1, vI n)] rfl ?_
          refine jx_iload E 0 dX5_rule_67 rfl ?_
          refine jx_iload_n E 2 dX5_rule_69 rfl ?_
          refine jx_icmp_ge (tgt := 79) E dX5_rule_70 (by decide) (fun c3 => ?_) (fun c3 => ?_)
          · skip
            refine jx_iinc E 1 dX5_rule_79 rfl (by decide) [(4, vI (50 * (k : Int) + 50)), (5, vI (stoopedP (daysP n.toNat (updI (hdP U (x 0) (21 + 5 * (x 0) 4)) 2 (50 * (k : Int)))))), (3, vI ms), (2, vI bs), (0, .ref (a 0)), (1, vI n)] rfl ?_
            refine jx_goto (tgt := 22) E dX5_rule_82 (by decide) ?_
            refine jx_lv (lv' := [(4, vI (50 * (k : Int) + 50)), (3, vI ms), (2, vI bs), (0, .ref (a 0)), (1, vI n)]) [0, 2, 3, 4, 5] rfl ?_
            refine jx_lve (congrArg (fun z => [(4, vI z), (3, vI ms), (2, vI bs), (0, Value.ref (a 0)), (1, vI n)]) (show (50 * (k : Int)) + 50 = 50 * ((k + 1 : Nat) : Int) by omega)) ?_
            exact ih (k + 1) _ _ _ (by omega) (by omega) (Or.inr ⟨by omega, by rw [ruF_1]; omega, by rw [ruF_2]; omega, by omega⟩) (fun q => absurd q (by omega)) (by omega)
          · skip
            refine jx_iload E 0 dX5_rule_73 rfl ?_
            refine jx_istore_n E dX5_rule_75 (by decide) [(3, vI (stoopedP (daysP n.toNat (updI (hdP U (x 0) (21 + 5 * (x 0) 4)) 2 (50 * (k : Int)))))), (5, vI (stoopedP (daysP n.toNat (updI (hdP U (x 0) (21 + 5 * (x 0) 4)) 2 (50 * (k : Int)))))), (4, vI (50 * (k : Int))), (2, vI bs), (0, .ref (a 0)), (1, vI n)] rfl ?_
            refine jx_iload E 2 dX5_rule_76 rfl ?_
            refine jx_istore_n E dX5_rule_78 (by decide) [(2, vI (50 * (k : Int))), (3, vI (stoopedP (daysP n.toNat (updI (hdP U (x 0) (21 + 5 * (x 0) 4)) 2 (50 * (k : Int)))))), (5, vI (stoopedP (daysP n.toNat (updI (hdP U (x 0) (21 + 5 * (x 0) 4)) 2 (50 * (k : Int)))))), (4, vI (50 * (k : Int))), (0, .ref (a 0)), (1, vI n)] rfl ?_
            refine jx_iinc E 3 dX5_rule_79 rfl (by decide) [(4, vI (50 * (k : Int) + 50)), (2, vI (50 * (k : Int))), (3, vI (stoopedP (daysP n.toNat (updI (hdP U (x 0) (21 + 5 * (x 0) 4)) 2 (50 * (k : Int)))))), (5, vI (stoopedP (daysP n.toNat (updI (hdP U (x 0) (21 + 5 * (x 0) 4)) 2 (50 * (k : Int)))))), (0, .ref (a 0)), (1, vI n)] rfl ?_
            refine jx_goto (tgt := 22) E dX5_rule_82 (by decide) ?_
            refine jx_lv (lv' := [(4, vI (50 * (k : Int) + 50)), (3, vI (stoopedP (daysP n.toNat (updI (hdP U (x 0) (21 + 5 * (x 0) 4)) 2 (50 * (k : Int)))))), (2, vI (50 * (k : Int))), (0, .ref (a 0)), (1, vI n)]) [0, 2, 1, 4, 5] rfl ?_
            refine jx_lve (congrArg (fun z => [(4, vI z), (3, vI (stoopedP (daysP n.toNat (updI (hdP U (x 0) (21 + 5 * (x 0) 4)) 2 (50 * (k : Int)))))), (2, vI (50 * (k : Int))), (0, Value.ref (a 0)), (1, vI n)]) (show (50 * (k : Int)) + 50 = 50 * ((k + 1 : Nat) : Int) by omega)) ?_
            exact ih (k + 1) _ _ _ (by omega) (by omega) (Or.inr ⟨by omega, by rw [ruF_1]; omega, by rw [ruF_2]; omega, by omega⟩) (fun q => absurd q (by omega)) (by omega)
    refine jx_eq (ws' := wsX G a (setc x 1 (x 1))) (congrArg (wsX G a) (setc_self x 1).symm) ?_
    exact LP22 22 0 _ _ _ (by omega) (by omega) (Or.inl ⟨rfl, rfl, rfl⟩) (fun _ => rfl) (by omega)
  · skip
    refine jx_aload_n E 0 dX5_rule_7 rfl ?_
    refine jx_ldc E wc_X5_53 dX5_rule_8 ?_
    refine jx_callVi E [vI (-1000000001)] [] (c_X5_found l G a x (f := (-1000000001)) (by omega)) mb_X5_found mv_X5_found wl_X5_54 f_X5 wx_obj dX5_rule_10 ?_
    exact jx_iretE E hr dX5_rule_13 (by have hV : ¬ (v100 n) := (by omega); simp only [ruleR, if_neg hV]) (x 1) (by have hV : ¬ (v100 n) := (by omega); simp only [ruleR, if_neg hV]; rw [endX_f (by decide)]; exact congrArg (wsX G a) (setc_self _ 1).symm)
