/-! 53.xh: laid by the walker out of specXH -/
set_option maxHeartbeats 4000000 in
theorem c_X3_takeItem (l : Launch) (G : GT) (a : Nat → Nat) (x : MS) (h1 : RG (x 3) (x 9)) (h2 : 0 ≤ x 1 4 ∧ x 1 4 ≤ 8) : CtI l G yX3_takeItem cX3_takeItem 3 (some .boolean) 8 [.ref (a 39), .ref (a 13)] (wsX G a x) ((tiR (x 3) (x 1) (x 9)).1) (wsX G a (setc (setc x 1 ((tiR (x 3) (x 1) (x 9)).2.1)) 9 ((tiR (x 3) (x 1) (x 9)).2.2))) := by
  have i9 := isR_in (x 3) (x 9) 9
  have i10 := isR_in (x 3) (x 9) 10
  have i11 := isR_in (x 3) (x 9) 11
  have i12 := isR_in (x 3) (x 9) 12
  have hkd := kd_in (x 3) (x 9)
  have o1 := tnO_in (stR (x 3) (x 9)) 0 9999
  have r1 := (RO_A (kd := kdR (x 3) (x 9)) h2 h1).1
  have r2 := (RO_tr h2 h1.stp).1
  have r3 := (RO_tf (c := 1) h2 h1.stp).1
  have r4 := (RO_tf (c := 0) h2 h1.stp).1
  refine CtI.of (by decide) (Nat.le_of_ble_eq_true rfl) ?_
  intro p e s m args below meth c A E hr
  refine jx_lv (lv' := [(0, .ref (a 39)), (1, .ref (a 13))]) [0, 1] rfl ?_
  refine jx_aload_n E 0 dX3_takeItem_0 rfl ?_
  refine jx_callVi E [] [] (c_X3_kindNamed l G a x  h1) mb_X3_kindNamed mv_X3_kindNamed wl_X3_38 f_X3 wx_read dX3_takeItem_1 ?_
  refine jx_istore_n E dX3_takeItem_4 (by decide) [(2, vI (kdR (x 3) (x 9))), (0, .ref (a 39)), (1, .ref (a 13))] rfl ?_
  refine jx_iload_n E 0 dX3_takeItem_5 rfl ?_
  refine jx_iconst E dX3_takeItem_6 ?_
  refine jx_icmp_eq (tgt := 17) E dX3_takeItem_7 (by decide) (fun c1 => ?_) (fun c1 => ?_)
  · skip
    refine jx_aload_n E 1 dX3_takeItem_17 rfl ?_
    refine jx_ldcS E 9 (by decide) rfl dX3_takeItem_18 ?_
    refine jx_callVi E [.ref (G.2.2 (2 + 9))] [] (c_X3_takeWord l G a x (wi := 9) (by decide) h1) mb_X3_takeWord mv_X3_takeWord wl_X3_48 f_X3 wx_read dX3_takeItem_20 ?_
    refine jx_if_eq (tgt := 32) E dX3_takeItem_23 (by decide) (fun c2 => ?_) (fun c2 => ?_)
    · skip
      refine jx_eq (ws' := wsX G a x) (congrArg (wsX G a) (by rw [tw_no (by omega), setc_self])) ?_
      refine jx_aload_n E 1 dX3_takeItem_32 rfl ?_
      refine jx_ldcS E 10 (by decide) rfl dX3_takeItem_33 ?_
      refine jx_callVi E [.ref (G.2.2 (2 + 10))] [] (c_X3_takeWord l G a x (wi := 10) (by decide) h1) mb_X3_takeWord mv_X3_takeWord wl_X3_48 f_X3 wx_read dX3_takeItem_35 ?_
      refine jx_if_eq (tgt := 48) E dX3_takeItem_38 (by decide) (fun c3 => ?_) (fun c3 => ?_)
      · skip
        refine jx_eq (ws' := wsX G a x) (congrArg (wsX G a) (by rw [tw_no (by omega), setc_self])) ?_
        refine jx_aload_n E 1 dX3_takeItem_48 rfl ?_
        refine jx_ldcS E 11 (by decide) rfl dX3_takeItem_49 ?_
        refine jx_callVi E [.ref (G.2.2 (2 + 11))] [] (c_X3_takeWord l G a x (wi := 11) (by decide) h1) mb_X3_takeWord mv_X3_takeWord wl_X3_48 f_X3 wx_read dX3_takeItem_51 ?_
        refine jx_if_eq (tgt := 64) E dX3_takeItem_54 (by decide) (fun c4 => ?_) (fun c4 => ?_)
        · skip
          refine jx_eq (ws' := wsX G a x) (congrArg (wsX G a) (by rw [tw_no (by omega), setc_self])) ?_
          refine jx_aload_n E 1 dX3_takeItem_64 rfl ?_
          refine jx_ldcS E 12 (by decide) rfl dX3_takeItem_65 ?_
          refine jx_callVi E [.ref (G.2.2 (2 + 12))] [] (c_X3_takeWord l G a x (wi := 12) (by decide) h1) mb_X3_takeWord mv_X3_takeWord wl_X3_48 f_X3 wx_read dX3_takeItem_67 ?_
          refine jx_if_eq (tgt := 94) E dX3_takeItem_70 (by decide) (fun c5 => ?_) (fun c5 => ?_)
          · skip
            refine jx_eq (ws' := wsX G a x) (congrArg (wsX G a) (by rw [tw_no (by omega), setc_self])) ?_
            refine jx_iconst E dX3_takeItem_94 ?_
            exact jx_zret E hr dX3_takeItem_95 (by rw [show tiR (x 3) (x 1) (x 9) = ((0 : Int), x 1, x 9) from by unfold tiR; rw [if_neg (by omega), if_neg (by omega), if_neg (by omega), if_neg (by omega), if_neg (by omega)]]) (by rw [show tiR (x 3) (x 1) (x 9) = ((0 : Int), x 1, x 9) from by unfold tiR; rw [if_neg (by omega), if_neg (by omega), if_neg (by omega), if_neg (by omega), if_neg (by omega)]]; first | done | exact congrArg (wsX G a) (by first | rfl | (funext d; simp only [setc_app]; (repeat' split) <;> first | rfl | (exfalso; omega) | (rename_i z9; subst z9; rfl)))) (by first | exact Or.inl rfl | exact Or.inr rfl | omega)
          · skip
            refine jx_eq (ws' := wsX G a (setc x 9 (stR (x 3) (x 9)))) (congrArg (wsX G a) (by rw [tw_y (by omega)])) ?_
            refine jx_aload_n E 1 dX3_takeItem_73 rfl ?_
            refine jx_iconst E dX3_takeItem_74 ?_
            refine jx_sipush E dX3_takeItem_75 ?_
            refine jx_callVi E [vI 0, vI 9999] [] (c_X3_takeNumber l G a (setc x 9 (stR (x 3) (x 9))) (lo := 0) (hi := 9999) (by unfold inR; omega) (by unfold inR; omega) (show RG (x 3) (stR (x 3) (x 9)) from h1.stp)) mb_X3_takeNumber mv_X3_takeNumber wl_X3_64 f_X3 wx_read dX3_takeItem_78 ?_
            refine jx_eq (ws' := wsX G a (setc x 9 (tnR (x 3) (stR (x 3) (x 9)) 0 9999))) (congrArg (wsX G a) (by first | rfl | (rw [setc_setc]; rfl) | exact setc_in _ _ _ _ (by decide) | exact setc_in2 _ _ _ _ _ (by decide) (by decide) | (rw [setc_in _ _ _ _ (by decide), setc_in _ _ _ _ (by decide)]; rfl) | (rw [setc_in _ _ _ _ (by decide), setc_setc]; rfl) | (simp only [setc_setc, setc_at]; done) | (simp only [setc_setc, setc_at]; rfl) | (funext d; simp only [setc_app]; (repeat' split) <;> first | rfl | omega))) ?_
            refine jx_st (st' := [vI (tnO (stR (x 3) (x 9)) 0 9999)]) (by first | rfl | (simp only [setc_at]; done) | (simp only [setc_at]; rfl)) ?_
            refine jx_if_eq (tgt := 94) E dX3_takeItem_81 (by decide) (fun c6 => ?_) (fun c6 => ?_)
            · skip
              refine jx_eq (ws' := wsX G a (setc x 9 (stR (x 3) (x 9)))) (congrArg (wsX G a) (by rw [tn_no (by omega)])) ?_
              refine jx_iconst E dX3_takeItem_94 ?_
              exact jx_zret E hr dX3_takeItem_95 (by rw [show tiR (x 3) (x 1) (x 9) = ((0 : Int), x 1, stR (x 3) (x 9)) from by unfold tiR; rw [if_neg (by omega), if_neg (by omega), if_neg (by omega), if_neg (by omega), if_pos (by omega)]; unfold ttR; rw [if_neg (by omega)]]) (by rw [show tiR (x 3) (x 1) (x 9) = ((0 : Int), x 1, stR (x 3) (x 9)) from by unfold tiR; rw [if_neg (by omega), if_neg (by omega), if_neg (by omega), if_neg (by omega), if_pos (by omega)]; unfold ttR; rw [if_neg (by omega)]]; first | done | exact congrArg (wsX G a) (by first | rfl | (funext d; simp only [setc_app]; (repeat' split) <;> first | rfl | (exfalso; omega) | (rename_i z9; subst z9; rfl)))) (by first | exact Or.inl rfl | exact Or.inr rfl | omega)
            · skip
              refine jx_aload_n E 2 dX3_takeItem_84 rfl ?_
              refine jx_aload_n E 1 dX3_takeItem_85 rfl ?_
              refine jx_get E f_X3 5 (v := vI ((tnR (x 3) (stR (x 3) (x 9)) 0 9999) 6)) wx_read (by decide) wf_X3_24 (by first | rfl | (simp only [setc_at, List.getElem?_cons_zero, List.getElem?_cons_succ]; done) | (simp [setc_at]; done)) dX3_takeItem_86 ?_
              refine jx_put E f_X4 1 (wx_town (j := 1) (by decide)) (by decide) wf_X3_68 rfl rfl rfl (Nat.le_of_ble_eq_true rfl) (wp_town1 (j := 1) (by decide)) dX3_takeItem_89 ?_
              refine jx_iconst E dX3_takeItem_92 ?_
              exact jx_zret E hr dX3_takeItem_93 (by rw [show tiR (x 3) (x 1) (x 9) = ((1 : Int), updI (x 1) 1 ((tnR (x 3) (stR (x 3) (x 9)) 0 9999) 6), tnR (x 3) (stR (x 3) (x 9)) 0 9999) from by unfold tiR; rw [if_neg (by omega), if_neg (by omega), if_neg (by omega), if_neg (by omega), if_pos (by omega)]; unfold ttR; rw [if_pos (by omega)]]) (by rw [show tiR (x 3) (x 1) (x 9) = ((1 : Int), updI (x 1) 1 ((tnR (x 3) (stR (x 3) (x 9)) 0 9999) 6), tnR (x 3) (stR (x 3) (x 9)) 0 9999) from by unfold tiR; rw [if_neg (by omega), if_neg (by omega), if_neg (by omega), if_neg (by omega), if_pos (by omega)]; unfold ttR; rw [if_pos (by omega)]]; first | done | exact congrArg (wsX G a) (by first | rfl | (funext d; simp only [setc_app]; (repeat' split) <;> first | rfl | (exfalso; omega) | (rename_i z9; subst z9; rfl)))) (by first | exact Or.inl rfl | exact Or.inr rfl | omega)
        · skip
          refine jx_eq (ws' := wsX G a (setc x 9 (stR (x 3) (x 9)))) (congrArg (wsX G a) (by rw [tw_y (by omega)])) ?_
          refine jx_aload_n E 1 dX3_takeItem_57 rfl ?_
          refine jx_aload_n E 2 dX3_takeItem_58 rfl ?_
          refine jx_iconst E dX3_takeItem_59 ?_
          refine jx_callVi E [.ref (a 13), vI 0] [] (c_X3_takeFrost l G a (setc x 9 (stR (x 3) (x 9))) (cq := 0) (show RG (x 3) (stR (x 3) (x 9)) from h1.stp)) mb_X3_takeFrost mv_X3_takeFrost wl_X3_57 f_X3 wx_read dX3_takeItem_60 ?_
          refine jx_eq (ws' := wsX G a (setc (setc x 9 ((tfR (x 3) (x 1) (stR (x 3) (x 9)) 0).2.2)) 1 ((tfR (x 3) (x 1) (stR (x 3) (x 9)) 0).2.1))) (congrArg (wsX G a) (by first | rfl | (rw [setc_setc]; rfl) | exact setc_in _ _ _ _ (by decide) | exact setc_in2 _ _ _ _ _ (by decide) (by decide) | (rw [setc_in _ _ _ _ (by decide), setc_in _ _ _ _ (by decide)]; rfl) | (rw [setc_in _ _ _ _ (by decide), setc_setc]; rfl) | (simp only [setc_setc, setc_at]; done) | (simp only [setc_setc, setc_at]; rfl) | (funext d; simp only [setc_app]; (repeat' split) <;> first | rfl | omega))) ?_
          refine jx_st (st' := [vI ((tfR (x 3) (x 1) (stR (x 3) (x 9)) 0).1)]) (by first | rfl | (simp only [setc_at]; done) | (simp only [setc_at]; rfl)) ?_
          exact jx_zret E hr dX3_takeItem_63 (by rw [show tiR (x 3) (x 1) (x 9) = tfR (x 3) (x 1) (stR (x 3) (x 9)) 0 from by unfold tiR; rw [if_neg (by omega), if_neg (by omega), if_neg (by omega), if_pos (by omega)]]) (by rw [show tiR (x 3) (x 1) (x 9) = tfR (x 3) (x 1) (stR (x 3) (x 9)) 0 from by unfold tiR; rw [if_neg (by omega), if_neg (by omega), if_neg (by omega), if_pos (by omega)]]; first | done | exact congrArg (wsX G a) (by first | rfl | (funext d; simp only [setc_app]; (repeat' split) <;> first | rfl | (exfalso; omega) | (rename_i z9; subst z9; rfl)))) (by first | exact Or.inl rfl | exact Or.inr rfl | omega)
      · skip
        refine jx_eq (ws' := wsX G a (setc x 9 (stR (x 3) (x 9)))) (congrArg (wsX G a) (by rw [tw_y (by omega)])) ?_
        refine jx_aload_n E 1 dX3_takeItem_41 rfl ?_
        refine jx_aload_n E 2 dX3_takeItem_42 rfl ?_
        refine jx_iconst E dX3_takeItem_43 ?_
        refine jx_callVi E [.ref (a 13), vI 1] [] (c_X3_takeFrost l G a (setc x 9 (stR (x 3) (x 9))) (cq := 1) (show RG (x 3) (stR (x 3) (x 9)) from h1.stp)) mb_X3_takeFrost mv_X3_takeFrost wl_X3_57 f_X3 wx_read dX3_takeItem_44 ?_
        refine jx_eq (ws' := wsX G a (setc (setc x 9 ((tfR (x 3) (x 1) (stR (x 3) (x 9)) 1).2.2)) 1 ((tfR (x 3) (x 1) (stR (x 3) (x 9)) 1).2.1))) (congrArg (wsX G a) (by first | rfl | (rw [setc_setc]; rfl) | exact setc_in _ _ _ _ (by decide) | exact setc_in2 _ _ _ _ _ (by decide) (by decide) | (rw [setc_in _ _ _ _ (by decide), setc_in _ _ _ _ (by decide)]; rfl) | (rw [setc_in _ _ _ _ (by decide), setc_setc]; rfl) | (simp only [setc_setc, setc_at]; done) | (simp only [setc_setc, setc_at]; rfl) | (funext d; simp only [setc_app]; (repeat' split) <;> first | rfl | omega))) ?_
        refine jx_st (st' := [vI ((tfR (x 3) (x 1) (stR (x 3) (x 9)) 1).1)]) (by first | rfl | (simp only [setc_at]; done) | (simp only [setc_at]; rfl)) ?_
        exact jx_zret E hr dX3_takeItem_47 (by rw [show tiR (x 3) (x 1) (x 9) = tfR (x 3) (x 1) (stR (x 3) (x 9)) 1 from by unfold tiR; rw [if_neg (by omega), if_neg (by omega), if_pos (by omega)]]) (by rw [show tiR (x 3) (x 1) (x 9) = tfR (x 3) (x 1) (stR (x 3) (x 9)) 1 from by unfold tiR; rw [if_neg (by omega), if_neg (by omega), if_pos (by omega)]]; first | done | exact congrArg (wsX G a) (by first | rfl | (funext d; simp only [setc_app]; (repeat' split) <;> first | rfl | (exfalso; omega) | (rename_i z9; subst z9; rfl)))) (by first | exact Or.inl rfl | exact Or.inr rfl | omega)
    · skip
      refine jx_eq (ws' := wsX G a (setc x 9 (stR (x 3) (x 9)))) (congrArg (wsX G a) (by rw [tw_y (by omega)])) ?_
      refine jx_aload_n E 1 dX3_takeItem_26 rfl ?_
      refine jx_aload_n E 2 dX3_takeItem_27 rfl ?_
      refine jx_callVi E [.ref (a 13)] [] (c_X3_takeRain l G a (setc x 9 (stR (x 3) (x 9)))  (show RG (x 3) (stR (x 3) (x 9)) from h1.stp)) mb_X3_takeRain mv_X3_takeRain wl_X3_52 f_X3 wx_read dX3_takeItem_28 ?_
      refine jx_eq (ws' := wsX G a (setc (setc x 9 ((trR (x 3) (x 1) (stR (x 3) (x 9))).2.2)) 1 ((trR (x 3) (x 1) (stR (x 3) (x 9))).2.1))) (congrArg (wsX G a) (by first | rfl | (rw [setc_setc]; rfl) | exact setc_in _ _ _ _ (by decide) | exact setc_in2 _ _ _ _ _ (by decide) (by decide) | (rw [setc_in _ _ _ _ (by decide), setc_in _ _ _ _ (by decide)]; rfl) | (rw [setc_in _ _ _ _ (by decide), setc_setc]; rfl) | (simp only [setc_setc, setc_at]; done) | (simp only [setc_setc, setc_at]; rfl) | (funext d; simp only [setc_app]; (repeat' split) <;> first | rfl | omega))) ?_
      refine jx_st (st' := [vI ((trR (x 3) (x 1) (stR (x 3) (x 9))).1)]) (by first | rfl | (simp only [setc_at]; done) | (simp only [setc_at]; rfl)) ?_
      exact jx_zret E hr dX3_takeItem_31 (by rw [show tiR (x 3) (x 1) (x 9) = trR (x 3) (x 1) (stR (x 3) (x 9)) from by unfold tiR; rw [if_neg (by omega), if_pos (by omega)]]) (by rw [show tiR (x 3) (x 1) (x 9) = trR (x 3) (x 1) (stR (x 3) (x 9)) from by unfold tiR; rw [if_neg (by omega), if_pos (by omega)]]; first | done | exact congrArg (wsX G a) (by first | rfl | (funext d; simp only [setc_app]; (repeat' split) <;> first | rfl | (exfalso; omega) | (rename_i z9; subst z9; rfl)))) (by first | exact Or.inl rfl | exact Or.inr rfl | omega)
  · skip
    refine jx_aload_n E 1 dX3_takeItem_10 rfl ?_
    refine jx_aload_n E 2 dX3_takeItem_11 rfl ?_
    refine jx_iload_n E 0 dX3_takeItem_12 rfl ?_
    refine jx_callVi E [.ref (a 13), vI (kdR (x 3) (x 9))] [] (c_X3_takeFountain l G a x (kd := kdR (x 3) (x 9)) h1 h2) mb_X3_takeFountain mv_X3_takeFountain wl_X3_42 f_X3 wx_read dX3_takeItem_13 ?_
    refine jx_eq (ws' := wsX G a (setc (setc x 1 ((tuA (x 3) (x 1) (x 9) (kdR (x 3) (x 9))).2.1)) 9 ((tuA (x 3) (x 1) (x 9) (kdR (x 3) (x 9))).2.2))) (congrArg (wsX G a) (by first | rfl | (rw [setc_setc]; rfl) | exact setc_in _ _ _ _ (by decide) | exact setc_in2 _ _ _ _ _ (by decide) (by decide) | (rw [setc_in _ _ _ _ (by decide), setc_in _ _ _ _ (by decide)]; rfl) | (rw [setc_in _ _ _ _ (by decide), setc_setc]; rfl) | (simp only [setc_setc, setc_at]; done) | (simp only [setc_setc, setc_at]; rfl) | (funext d; simp only [setc_app]; (repeat' split) <;> first | rfl | omega))) ?_
    exact jx_zret E hr dX3_takeItem_16 (by rw [show tiR (x 3) (x 1) (x 9) = tuA (x 3) (x 1) (x 9) (kdR (x 3) (x 9)) from by unfold tiR; rw [if_pos (by omega)]]) (by rw [show tiR (x 3) (x 1) (x 9) = tuA (x 3) (x 1) (x 9) (kdR (x 3) (x 9)) from by unfold tiR; rw [if_pos (by omega)]]; first | done | exact congrArg (wsX G a) (by first | rfl | (funext d; simp only [setc_app]; (repeat' split) <;> first | rfl | (exfalso; omega) | (rename_i z9; subst z9; rfl)))) (by first | exact Or.inl rfl | exact Or.inr rfl | omega)
set_option maxHeartbeats 4000000 in
theorem c_X3_readInto (l : Launch) (G : GT) (a : Nat → Nat) (x : MS) (h1 : TG (x 3) (updI (x 9) 4 0)) (h2 : 0 ≤ x 1 4 ∧ x 1 4 ≤ 8) : CtI l G yX3_readInto cX3_readInto 3 (some .int) 9 [.ref (a 39), .ref (a 13)] (wsX G a x) ((riR (x 3) (x 1) (x 9)).1) (wsX G a (setc (setc x 1 ((riR (x 3) (x 1) (x 9)).2.1)) 9 ((riR (x 3) (x 1) (x 9)).2.2))) := by
  refine CtI.of (by decide) (Nat.le_of_ble_eq_true rfl) ?_
  intro p e s m args below meth c A E hr
  refine jx_lv (lv' := [(0, .ref (a 39)), (1, .ref (a 13))]) [0, 1] rfl ?_
  refine jx_aload_n E 0 dX3_readInto_0 rfl ?_
  refine jx_iconst E dX3_readInto_1 ?_
  refine jx_put E f_X3 3 wx_read (by decide) wf_X3_18 rfl rfl rfl (Nat.le_of_ble_eq_true rfl) wp_read3 dX3_readInto_2 ?_
  refine jx_aload_n E 0 dX3_readInto_5 rfl ?_
  refine jx_callVv E [] [] (c_X3_step l G a (setc x 9 (updI (x 9) 4 0))  (show TG (x 3) (updI (x 9) 4 0) from h1)) mb_X3_step mv_X3_step wl_X3_31 f_X3 wx_read dX3_readInto_6 ?_
  refine jx_eq (ws' := wsX G a (setc x 9 (stR (x 3) (updI (x 9) 4 0)))) (congrArg (wsX G a) (by first | rfl | (rw [setc_setc]; rfl) | exact setc_in _ _ _ _ (by decide) | exact setc_in2 _ _ _ _ _ (by decide) (by decide) | (rw [setc_in _ _ _ _ (by decide), setc_in _ _ _ _ (by decide)]; rfl) | (rw [setc_in _ _ _ _ (by decide), setc_setc]; rfl) | (simp only [setc_setc, setc_at]; done) | (simp only [setc_setc, setc_at]; rfl) | (funext d; simp only [setc_app]; (repeat' split) <;> first | rfl | omega))) ?_
  refine jx_iconst E dX3_readInto_9 ?_
  refine jx_istore_n E dX3_readInto_10 (by decide) [(2, vI 1), (0, .ref (a 39)), (1, .ref (a 13))] rfl ?_
  have LP11 : ∀ (n2 : Nat) (fu : Nat) (T : Int → Int) (R : Int → Int), (fu ≤ 120) → (fu < n2) → (0 ≤ T 4 ∧ T 4 ≤ 8) → (RG (x 3) R) → (riF (x 3) fu T R = riR (x 3) (x 1) (x 9)) → JX p l e (rmL 9) s m args below meth c 3 G A 0 0 (QI below args s G A ((riR (x 3) (x 1) (x 9)).1) (wsX G a (setc (setc x 1 ((riR (x 3) (x 1) (x 9)).2.1)) 9 ((riR (x 3) (x 1) (x 9)).2.2)))) (wsX G a (setc (setc x 1 T) 9 R)) 11 [(2, vI (121 - (fu : Int))), (0, .ref (a 39)), (1, .ref (a 13))] [] := by
    intro n2
    induction n2 with
    | zero => intro fu T R q1 q2 q3 q4 q5; exfalso; omega
    | succ n2 ih =>
      intro fu T R q1 q2 q3 q4 q5
      have hRO := RO_ti q3 q4
      have hro1 := hRO.1
      obtain ⟨⟨g1, g2, -⟩, g3, g4, -⟩ := id hRO.2.2.1
      obtain ⟨⟨k1, k2, -⟩, k3, -⟩ := id q4
      refine jx_iload_n E 0 dX3_readInto_11 rfl ?_
      refine jx_bipush E dX3_readInto_12 ?_
      refine jx_icmp_gt (tgt := 67) E dX3_readInto_14 (by decide) (fun c1 => ?_) (fun c1 => ?_)
      · skip
        refine jx_iconst E dX3_readInto_67 ?_
        refine jx_aload_n E 1 dX3_readInto_68 rfl ?_
        refine jx_get E f_X3 2 (v := vI (R 3)) wx_read (by decide) wf_X3_15 (by first | rfl | (simp only [setc_at, List.getElem?_cons_zero, List.getElem?_cons_succ]; done) | (simp [setc_at]; done)) dX3_readInto_69 ?_
        refine jx_isub E dX3_readInto_72 ?_
        exact jx_iret E hr dX3_readInto_73 (by rw [← q5, show fu = 0 by omega]; rfl) (by rw [← q5, show fu = 0 by omega]; rfl)
      · skip
        refine jx_aload_n E 1 dX3_readInto_17 rfl ?_
        refine jx_aload_n E 2 dX3_readInto_18 rfl ?_
        refine jx_callVi E [.ref (a 13)] [] (c_X3_takeItem l G a (setc (setc x 1 T) 9 R)  q4 q3) mb_X3_takeItem mv_X3_takeItem wl_X3_34 f_X3 wx_read dX3_readInto_19 ?_
        refine jx_eq (ws' := wsX G a (setc (setc x 1 ((tiR (x 3) T R).2.1)) 9 ((tiR (x 3) T R).2.2))) (congrArg (wsX G a) (by first | rfl | (rw [setc_setc]; rfl) | exact setc_in _ _ _ _ (by decide) | exact setc_in2 _ _ _ _ _ (by decide) (by decide) | (rw [setc_in _ _ _ _ (by decide), setc_in _ _ _ _ (by decide)]; rfl) | (rw [setc_in _ _ _ _ (by decide), setc_setc]; rfl) | (simp only [setc_setc, setc_at]; done) | (simp only [setc_setc, setc_at]; rfl) | (funext d; simp only [setc_app]; (repeat' split) <;> first | rfl | omega))) ?_
        refine jx_st (st' := [vI ((tiR (x 3) T R).1)]) (by first | rfl | (simp only [setc_at]; done) | (simp only [setc_at]; rfl)) ?_
        refine jx_if_ne (tgt := 32) E dX3_readInto_22 (by decide) (fun c2 => ?_) (fun c2 => ?_)
        · skip
          refine jx_aload_n E 1 dX3_readInto_32 rfl ?_
          refine jx_get E f_X3 1 (v := vI (((tiR (x 3) T R).2.2) 2)) wx_read (by decide) wf_X3_11 (by first | rfl | (simp only [setc_at, List.getElem?_cons_zero, List.getElem?_cons_succ]; done) | (simp [setc_at]; done)) dX3_readInto_33 ?_
          refine jx_iconst E dX3_readInto_36 ?_
          refine jx_icmp_ne (tgt := 42) E dX3_readInto_37 (by decide) (fun c3 => ?_) (fun c3 => ?_)
          · skip
            refine jx_aload_n E 1 dX3_readInto_42 rfl ?_
            refine jx_get E f_X3 1 (v := vI (((tiR (x 3) T R).2.2) 2)) wx_read (by decide) wf_X3_11 (by first | rfl | (simp only [setc_at, List.getElem?_cons_zero, List.getElem?_cons_succ]; done) | (simp [setc_at]; done)) dX3_readInto_43 ?_
            refine jx_iconst E dX3_readInto_46 ?_
            refine jx_icmp_eq (tgt := 57) E dX3_readInto_47 (by decide) (fun c4 => ?_) (fun c4 => ?_)
            · skip
              refine jx_aload_n E 1 dX3_readInto_57 rfl ?_
              refine jx_callVv E [] [] (c_X3_step l G a (setc (setc x 1 ((tiR (x 3) T R).2.1)) 9 ((tiR (x 3) T R).2.2))  (show TG (x 3) (tiR (x 3) T R).2.2 from hRO.2.2.1.1)) mb_X3_step mv_X3_step wl_X3_31 f_X3 wx_read dX3_readInto_58 ?_
              refine jx_eq (ws' := wsX G a (setc (setc x 1 ((tiR (x 3) T R).2.1)) 9 (stR (x 3) ((tiR (x 3) T R).2.2)))) (congrArg (wsX G a) (by first | rfl | (rw [setc_setc]; rfl) | exact setc_in _ _ _ _ (by decide) | exact setc_in2 _ _ _ _ _ (by decide) (by decide) | (rw [setc_in _ _ _ _ (by decide), setc_in _ _ _ _ (by decide)]; rfl) | (rw [setc_in _ _ _ _ (by decide), setc_setc]; rfl) | (simp only [setc_setc, setc_at]; done) | (simp only [setc_setc, setc_at]; rfl) | (funext d; simp only [setc_app]; (repeat' split) <;> first | rfl | omega))) ?_
              refine jx_iinc E 0 dX3_readInto_61 rfl (by decide) [(2, vI (121 - (fu : Int) + 1)), (0, .ref (a 39)), (1, .ref (a 13))] rfl ?_
              refine jx_goto (tgt := 11) E dX3_readInto_64 (by decide) ?_
              obtain ⟨f', rfl⟩ : ∃ f', fu = f' + 1 := ⟨fu - 1, by omega⟩
              refine jx_lve (congrArg (fun z => [(2, vI z), (0, Value.ref (a 39)), (1, Value.ref (a 13))]) (show 121 - ((f' + 1 : Nat) : Int) + 1 = 121 - (f' : Int) by omega)) ?_
              exact ih f' (tiR (x 3) T R).2.1 (stR (x 3) (tiR (x 3) T R).2.2) (by omega) (by omega) hRO.2.1 hRO.2.2.1.stp (by rw [← q5]; simp only [riF]; rw [if_pos (by omega), if_neg (by omega), if_pos (by omega)])
            · skip
              refine jx_iconst E dX3_readInto_50 ?_
              refine jx_aload_n E 1 dX3_readInto_51 rfl ?_
              refine jx_get E f_X3 2 (v := vI (((tiR (x 3) T R).2.2) 3)) wx_read (by decide) wf_X3_15 (by first | rfl | (simp only [setc_at, List.getElem?_cons_zero, List.getElem?_cons_succ]; done) | (simp [setc_at]; done)) dX3_readInto_52 ?_
              refine jx_isub E dX3_readInto_55 ?_
              exact jx_iret E hr dX3_readInto_56 (by rw [← q5]; obtain ⟨f', rfl⟩ : ∃ f', fu = f' + 1 := ⟨fu - 1, by omega⟩; simp only [riF]; rw [if_pos (by omega), if_neg (by omega), if_neg (by omega)]) (by rw [← q5]; obtain ⟨f', rfl⟩ : ∃ f', fu = f' + 1 := ⟨fu - 1, by omega⟩; simp only [riF]; rw [if_pos (by omega), if_neg (by omega), if_neg (by omega)]; first | done | exact congrArg (wsX G a) (by first | rfl | (funext d; simp only [setc_app]; (repeat' split) <;> first | rfl | (exfalso; omega) | (rename_i z9; subst z9; rfl))))
          · skip
            refine jx_iload_n E 0 dX3_readInto_40 rfl ?_
            exact jx_iret E hr dX3_readInto_41 (by rw [← q5]; obtain ⟨f', rfl⟩ : ∃ f', fu = f' + 1 := ⟨fu - 1, by omega⟩; simp only [riF]; rw [if_pos (by omega), if_pos (by omega)]; show 121 - ((f' + 1 : Nat) : Int) = 120 - (f' : Int); omega) (by rw [← q5]; obtain ⟨f', rfl⟩ : ∃ f', fu = f' + 1 := ⟨fu - 1, by omega⟩; simp only [riF]; rw [if_pos (by omega), if_pos (by omega)]; first | done | exact congrArg (wsX G a) (by first | rfl | (funext d; simp only [setc_app]; (repeat' split) <;> first | rfl | (exfalso; omega) | (rename_i z9; subst z9; rfl))))
        · skip
          refine jx_iconst E dX3_readInto_25 ?_
          refine jx_aload_n E 1 dX3_readInto_26 rfl ?_
          refine jx_get E f_X3 2 (v := vI (((tiR (x 3) T R).2.2) 3)) wx_read (by decide) wf_X3_15 (by first | rfl | (simp only [setc_at, List.getElem?_cons_zero, List.getElem?_cons_succ]; done) | (simp [setc_at]; done)) dX3_readInto_27 ?_
          refine jx_isub E dX3_readInto_30 ?_
          exact jx_iret E hr dX3_readInto_31 (by rw [← q5]; obtain ⟨f', rfl⟩ : ∃ f', fu = f' + 1 := ⟨fu - 1, by omega⟩; simp only [riF]; rw [if_neg (by omega)]) (by rw [← q5]; obtain ⟨f', rfl⟩ : ∃ f', fu = f' + 1 := ⟨fu - 1, by omega⟩; simp only [riF]; rw [if_neg (by omega)]; first | done | exact congrArg (wsX G a) (by first | rfl | (funext d; simp only [setc_app]; (repeat' split) <;> first | rfl | (exfalso; omega) | (rename_i z9; subst z9; rfl))))
  refine jx_eq (ws' := wsX G a (setc (setc x 1 (x 1)) 9 (stR (x 3) (updI (x 9) 4 0)))) (by rw [setc_self]) ?_
  exact LP11 121 120 (x 1) (stR (x 3) (updI (x 9) 4 0)) (by omega) (by omega) h2 (RG_st h1).1 rfl
set_option maxHeartbeats 4000000 in
theorem c_X5_town (l : Launch) (G : GT) (a : Nat → Nat) (x : MS) (h1 : 0 ≤ x 0 4 ∧ x 0 4 ≤ 8) (h2 : TG (x 3) (updI (x 9) 4 0)) : CtI l G yX5_town cX5_town 2 (some .int) 10 [.ref (a 0)] (wsX G a x) ((riR (x 3) (hdP (x 1) (x 0) (21 + 5 * (x 0) 4)) (x 9)).1) (wsX G a (if 0 ≤ (riR (x 3) (hdP (x 1) (x 0) (21 + 5 * (x 0) 4)) (x 9)).1 then setc (setc (setc x 0 (hdP (x 0) (riR (x 3) (hdP (x 1) (x 0) (21 + 5 * (x 0) 4)) (x 9)).2.1 (21 + 5 * (riR (x 3) (hdP (x 1) (x 0) (21 + 5 * (x 0) 4)) (x 9)).2.1 4))) 1 (riR (x 3) (hdP (x 1) (x 0) (21 + 5 * (x 0) 4)) (x 9)).2.1) 9 (updI (riR (x 3) (hdP (x 1) (x 0) (21 + 5 * (x 0) 4)) (x 9)).2.2 1 0) else setc (setc x 1 (riR (x 3) (hdP (x 1) (x 0) (21 + 5 * (x 0) 4)) (x 9)).2.1) 9 (updI (riR (x 3) (hdP (x 1) (x 0) (21 + 5 * (x 0) 4)) (x 9)).2.2 1 0))) := by
  have e4 : hdP (x 1) (x 0) (21 + 5 * (x 0) 4) 4 = x 0 4 := by simp only [hdP]; rw [if_pos (by omega)]
  have hri := ri_ok (x 3) 120 (t := hdP (x 1) (x 0) (21 + 5 * (x 0) 4)) (by omega) (by omega) (RG_st h2).1
  have hr1 : -121 ≤ (riR (x 3) (hdP (x 1) (x 0) (21 + 5 * (x 0) 4)) (x 9)).1 ∧ (riR (x 3) (hdP (x 1) (x 0) (21 + 5 * (x 0) 4)) (x 9)).1 ≤ 120 := hri.1
  refine CtI.of (by decide) (Nat.le_of_ble_eq_true rfl) ?_
  intro p e s m args below meth c A E hr
  refine jx_lv (lv' := [(0, .ref (a 0))]) [0] rfl ?_
  refine jx_aload_n E 0 dX5_town_0 rfl ?_
  refine jx_get E f_X5 1 (v := .ref (a 13)) wx_obj (by decide) wf_X5_16 rfl dX5_town_1 ?_
  refine jx_aload_n E 0 dX5_town_4 rfl ?_
  refine jx_get E f_X5 0 (v := .ref (a 1)) wx_obj (by decide) wf_X5_10 rfl dX5_town_5 ?_
  refine jx_callVv E [.ref (a 1)] [] (c_X4_become_10 l G a x  (by omega)) mb_X4_become mv_X4_become wl_X5_166 f_X4 (wx_town (j := 1) (by decide)) dX5_town_8 ?_
  refine jx_aload_n E 0 dX5_town_11 rfl ?_
  refine jx_get E f_X5 5 (v := .ref (a 39)) wx_obj (by decide) wf_X5_38 rfl dX5_town_12 ?_
  refine jx_aload_n E 0 dX5_town_15 rfl ?_
  refine jx_get E f_X5 1 (v := .ref (a 13)) wx_obj (by decide) wf_X5_16 rfl dX5_town_16 ?_
  refine jx_callVi E [.ref (a 13)] [] (c_X3_readInto l G a (setc x 1 (hdP (x 1) (x 0) (21 + 5 * (x 0) 4)))  (show TG (x 3) (updI (x 9) 4 0) from h2) (show 0 ≤ hdP (x 1) (x 0) (21 + 5 * (x 0) 4) 4 ∧ hdP (x 1) (x 0) (21 + 5 * (x 0) 4) 4 ≤ 8 by omega)) mb_X3_readInto mv_X3_readInto wl_X5_198 f_X3 wx_read dX5_town_19 ?_
  refine jx_eq (ws' := wsX G a (setc (setc x 1 ((riR (x 3) (hdP (x 1) (x 0) (21 + 5 * (x 0) 4)) (x 9)).2.1)) 9 ((riR (x 3) (hdP (x 1) (x 0) (21 + 5 * (x 0) 4)) (x 9)).2.2))) (congrArg (wsX G a) (by first | rfl | (rw [setc_setc]; rfl) | exact setc_in _ _ _ _ (by decide) | exact setc_in2 _ _ _ _ _ (by decide) (by decide) | (rw [setc_in _ _ _ _ (by decide), setc_in _ _ _ _ (by decide)]; rfl) | (rw [setc_in _ _ _ _ (by decide), setc_setc]; rfl) | (simp only [setc_setc, setc_at]; done) | (simp only [setc_setc, setc_at]; rfl) | (funext d; simp only [setc_app]; (repeat' split) <;> first | rfl | omega))) ?_
  refine jx_st (st' := [vI ((riR (x 3) (hdP (x 1) (x 0) (21 + 5 * (x 0) 4)) (x 9)).1)]) (by first | rfl | (simp only [setc_at]; done) | (simp only [setc_at]; rfl)) ?_
  refine jx_istore_n E dX5_town_22 (by decide) [(1, vI ((riR (x 3) (hdP (x 1) (x 0) (21 + 5 * (x 0) 4)) (x 9)).1)), (0, .ref (a 0))] rfl ?_
  refine jx_iload_n E 0 dX5_town_23 rfl ?_
  refine jx_if_lt (tgt := 38) E dX5_town_24 (by decide) (fun c1 => ?_) (fun c1 => ?_)
  · skip
    refine jx_aload_n E 1 dX5_town_38 rfl ?_
    refine jx_get E f_X5 4 (v := .ref (a 37)) wx_obj (by decide) wf_X5_29 rfl dX5_town_39 ?_
    refine jx_iconst E dX5_town_42 ?_
    refine jx_put E f_X2 1 wx_tape (by decide) wf_X5_192 rfl rfl rfl (Nat.le_of_ble_eq_true rfl) wp_tlen dX5_town_43 ?_
    refine jx_eq (ws' := wsX G a (setc (setc x 1 ((riR (x 3) (hdP (x 1) (x 0) (21 + 5 * (x 0) 4)) (x 9)).2.1)) 9 (updI ((riR (x 3) (hdP (x 1) (x 0) (21 + 5 * (x 0) 4)) (x 9)).2.2) 1 0))) (congrArg (wsX G a) (by first | rfl | (rw [setc_setc]; rfl) | exact setc_in _ _ _ _ (by decide) | exact setc_in2 _ _ _ _ _ (by decide) (by decide) | (rw [setc_in _ _ _ _ (by decide), setc_in _ _ _ _ (by decide)]; rfl) | (rw [setc_in _ _ _ _ (by decide), setc_setc]; rfl) | (simp only [setc_setc, setc_at]; done) | (simp only [setc_setc, setc_at]; rfl) | (funext d; simp only [setc_app]; (repeat' split) <;> first | rfl | omega))) ?_
    refine jx_iload_n E 0 dX5_town_46 rfl ?_
    exact jx_iret E hr dX5_town_47 rfl (by rw [if_neg (by omega)]; first | done | exact congrArg (wsX G a) (by first | rfl | (funext d; simp only [setc_app]; (repeat' split) <;> first | rfl | (exfalso; omega) | (rename_i z9; subst z9; rfl))))
  · skip
    refine jx_aload_n E 1 dX5_town_27 rfl ?_
    refine jx_get E f_X5 0 (v := .ref (a 1)) wx_obj (by decide) wf_X5_10 rfl dX5_town_28 ?_
    refine jx_aload_n E 1 dX5_town_31 rfl ?_
    refine jx_get E f_X5 1 (v := .ref (a 13)) wx_obj (by decide) wf_X5_16 rfl dX5_town_32 ?_
    refine jx_callVv E [.ref (a 13)] [] (c_X4_become_01 l G a (setc (setc x 1 ((riR (x 3) (hdP (x 1) (x 0) (21 + 5 * (x 0) 4)) (x 9)).2.1)) 9 ((riR (x 3) (hdP (x 1) (x 0) (21 + 5 * (x 0) 4)) (x 9)).2.2))  (show 0 ≤ (riR (x 3) (hdP (x 1) (x 0) (21 + 5 * (x 0) 4)) (x 9)).2.1 4 ∧ (riR (x 3) (hdP (x 1) (x 0) (21 + 5 * (x 0) 4)) (x 9)).2.1 4 ≤ 8 from hri.2)) mb_X4_become mv_X4_become wl_X5_166 f_X4 (wx_town (j := 0) (by decide)) dX5_town_35 ?_
    refine jx_aload_n E 1 dX5_town_38 rfl ?_
    refine jx_get E f_X5 4 (v := .ref (a 37)) wx_obj (by decide) wf_X5_29 rfl dX5_town_39 ?_
    refine jx_iconst E dX5_town_42 ?_
    refine jx_put E f_X2 1 wx_tape (by decide) wf_X5_192 rfl rfl rfl (Nat.le_of_ble_eq_true rfl) wp_tlen dX5_town_43 ?_
    refine jx_eq (ws' := wsX G a (setc (setc (setc x 1 ((riR (x 3) (hdP (x 1) (x 0) (21 + 5 * (x 0) 4)) (x 9)).2.1)) 9 (updI ((riR (x 3) (hdP (x 1) (x 0) (21 + 5 * (x 0) 4)) (x 9)).2.2) 1 0)) 0 (hdP (x 0) ((riR (x 3) (hdP (x 1) (x 0) (21 + 5 * (x 0) 4)) (x 9)).2.1) (21 + 5 * ((riR (x 3) (hdP (x 1) (x 0) (21 + 5 * (x 0) 4)) (x 9)).2.1) 4)))) (congrArg (wsX G a) (by first | rfl | (rw [setc_setc]; rfl) | exact setc_in _ _ _ _ (by decide) | exact setc_in2 _ _ _ _ _ (by decide) (by decide) | (rw [setc_in _ _ _ _ (by decide), setc_in _ _ _ _ (by decide)]; rfl) | (rw [setc_in _ _ _ _ (by decide), setc_setc]; rfl) | (simp only [setc_setc, setc_at]; done) | (simp only [setc_setc, setc_at]; rfl) | (funext d; simp only [setc_app]; (repeat' split) <;> first | rfl | omega))) ?_
    refine jx_iload_n E 0 dX5_town_46 rfl ?_
    exact jx_iret E hr dX5_town_47 rfl (by rw [if_pos (by omega)]; first | done | exact congrArg (wsX G a) (by first | rfl | (funext d; simp only [setc_app]; (repeat' split) <;> first | rfl | (exfalso; omega) | (rename_i z9; subst z9; rfl))))
