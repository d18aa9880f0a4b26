/-! 13.m3: laid by the walker out of specM3 -/
set_option maxHeartbeats 4000000 in
theorem c_X6_goes (l : Launch) (G : GT) (b : Nat → Nat) (y : MS) (h1 : VV (y 0)) : CtV l G yX6_goes cX6_goes 2 none 5 [.ref (b 0)] (wsM G b y) (wsM G b (setc y 0 (dayP (y 0)))) := by
  have hF := h1.2.2.2.2.2.2.2
  have h4 := h1.2.2.2.2.1
  have hw := week_in h1
  have h5 := h1.2.2.2.2.2.1 _ hw.1 hw.2
  have v1 := h1.2.1
  have v0 := h1.1
  have w0 := VT_rained h1
  have w1 := VT_committee w0
  have f1 : FR (y 0) (committeeP (rainedP (y 0))) := (FR_rained (y 0)).tr w1.2
  have e1 := f1.2.2.2.1
  refine CtV.of (by decide) (Nat.le_of_ble_eq_true rfl) ?_
  intro p e s m args below meth c A E hr
  refine jx_lv (lv' := [(0, .ref (b 0))]) [0] rfl ?_
  refine jx_aload_n E 0 dX6_goes_0 rfl ?_
  refine jx_get E f_X6 0 (v := .ref (b 1)) wm_obj (by decide) wf_X6_9 rfl dX6_goes_1 ?_
  refine jx_iconst E dX6_goes_4 ?_
  refine jx_aload_n E 0 dX6_goes_5 rfl ?_
  refine jx_get E f_X6 0 (v := .ref (b 1)) wm_obj (by decide) wf_X6_9 rfl dX6_goes_6 ?_
  refine jx_iconst E dX6_goes_9 ?_
  refine jx_iald E (v := (y 0) 1) wm_m (row0_at (by omega) (by omega)) (by omega) (by omega) (by decide) dX6_goes_10 ?_
  refine jx_aload_n E 0 dX6_goes_11 rfl ?_
  refine jx_get E f_X6 0 (v := .ref (b 1)) wm_obj (by decide) wf_X6_9 rfl dX6_goes_12 ?_
  refine jx_iconst E dX6_goes_15 ?_
  refine jx_aload_n E 0 dX6_goes_16 rfl ?_
  refine jx_callVi E [] [vI 5, .ref (b 1), vI ((y 0) 1), vI 1, .ref (b 1)] (c_X6_weekNow l G b y  (by omega)) mb_X6_weekNow mv_X6_weekNow wl_X6_45 f_X6 wm_obj dX6_goes_17 ?_
  refine jx_iadd E dX6_goes_20 ?_
  refine jx_iald E (v := (y 0) (5 + (weekP (y 0)))) wm_m (row0_at (by omega) (by omega)) (by omega) (by omega) (by decide) dX6_goes_21 ?_
  refine jx_iadd E dX6_goes_22 ?_
  refine jx_iconst E dX6_goes_23 ?_
  refine jx_sipush E dX6_goes_24 ?_
  refine jx_callSi E [vI (((y 0) 1) + ((y 0) (5 + (weekP (y 0))))), vI 0, vI 9999] [vI 1, .ref (b 1)] (c_X6_held l G (wsM G b y) (v := ((y 0) 1) + ((y 0) (5 + (weekP (y 0))))) (lo := 0) (hi := 9999) (by unfold inR; omega) (by unfold inR; omega) (by unfold inR; omega)) mb_X6_held ms_X6_held wl_X6_53 dX6_goes_27 ?_
  refine jx_iast E wm_m (wq_m (by omega) (by omega)) (by omega) (by omega) (by decide) dX6_goes_30 ?_
  refine jx_eq (ws' := wsM G b (setc y 0 (rainedP (y 0)))) (congrArg (fun z => wsM G b (setc y 0 (updI (y 0) 1 z))) (by omega)) ?_
  refine jx_aload_n E 0 dX6_goes_31 rfl ?_
  refine jx_callVv E [] [] (c_X6_committee l G b (setc y 0 (rainedP (y 0)))  w0) mb_X6_committee mv_X6_committee wl_X6_116 f_X6 wm_obj dX6_goes_32 ?_
  refine jx_eq (ws' := wsM G b (setc y 0 (committeeP (rainedP (y 0))))) (congrArg (wsM G b) (by first | rfl | (rw [setc_setc]; rfl) | (simp only [setc_setc, setc_at]; done) | (simp only [setc_setc, setc_at]; rfl) | (funext d; simp only [setc_app]; (repeat' split) <;> first | rfl | omega | simp_all))) ?_
  refine jx_iconst E dX6_goes_35 ?_
  refine jx_istore_n E dX6_goes_36 (by decide) [(1, vI 0), (0, .ref (b 0))] rfl ?_
  have LP37 : ∀ (n2 : Nat) (k : Nat), ((k : Int) ≤ y 0 4) → (y 0 4 - (k : Int) < n2) → JX p l e (rmL 5) s m args below meth c 2 G A 0 0 (QV below args s G A (wsM G b (setc y 0 (dayP (y 0))))) (wsM G b (setc y 0 (flowsP (coldP (y 0)) (committeeP (rainedP (y 0))) k))) 37 [(1, vI (k : Int)), (0, .ref (b 0))] [] := by
    intro n2
    induction n2 with
    | zero => intro k q1 q2; exfalso; omega
    | succ n2 ih =>
      intro k q1 q2
      have hk := VT_flows (c := coldP (y 0)) w1.1 k (by rw [e1]; omega)
      have hk4 := (f1.tr hk.2).2.2.2.1
      have hkc := FR.cold (f1.tr hk.2) h1
      refine jx_iload_n E 0 dX6_goes_37 rfl ?_
      refine jx_aload_n E 1 dX6_goes_38 rfl ?_
      refine jx_get E f_X6 0 (v := .ref (b 1)) wm_obj (by decide) wf_X6_9 rfl dX6_goes_39 ?_
      refine jx_iconst E dX6_goes_42 ?_
      refine jx_iald E (v := (flowsP (coldP (y 0)) (committeeP (rainedP (y 0))) k) 4) wm_m (row0_at (by omega) (by omega)) (by omega) (by omega) (by decide) dX6_goes_43 ?_
      refine jx_icmp_ge (tgt := 58) E dX6_goes_44 (by decide) (fun c1 => ?_) (fun c1 => ?_)
      · skip
        refine jx_iconst E dX6_goes_58 ?_
        refine jx_istore_n E dX6_goes_59 (by decide) [(1, vI 0), (0, .ref (b 0))] rfl ?_
        have LP60 : ∀ (n2 : Nat) (k : Nat), ((k : Int) ≤ y 0 4) → (y 0 4 - (k : Int) < n2) → JX p l e (rmL 5) s m args below meth c 2 G A 0 0 (QV below args s G A (wsM G b (setc y 0 (dayP (y 0))))) (wsM G b (setc y 0 (gainsAllP (coldP (y 0)) (flowsP (coldP (y 0)) (committeeP (rainedP (y 0))) (y 0 4).toNat) k))) 60 [(1, vI (k : Int)), (0, .ref (b 0))] [] := by
          intro n2
          induction n2 with
          | zero => intro k q1 q2; exfalso; omega
          | succ n2 ih =>
            intro k q1 q2
            have hz := VT_flows (c := coldP (y 0)) w1.1 (y 0 4).toNat (by rw [e1]; omega)
            have hk := VT_gains (c := coldP (y 0)) hz.1 k
            have hk4 := ((f1.tr hz.2).tr hk.2).2.2.2.1
            have hkc := FR.cold ((f1.tr hz.2).tr hk.2) h1
            have hg := gains_in (t := gainsAllP (coldP (y 0)) (flowsP (coldP (y 0)) (committeeP (rainedP (y 0))) (y 0 4).toNat) k) (i := k) (c := coldP (y 0))
            have hlv : (k : Int) < y 0 4 → 0 ≤ gainsAllP (coldP (y 0)) (flowsP (coldP (y 0)) (committeeP (rainedP (y 0))) (y 0 4).toNat) k (21 + 5 * (k : Int) + 3) ∧ gainsAllP (coldP (y 0)) (flowsP (coldP (y 0)) (committeeP (rainedP (y 0))) (y 0 4).toNat) k (21 + 5 * (k : Int) + 3) ≤ 99 := fun q => (hk.1.2.2.2.2.2.2.2 _ (by omega) (by rw [hk4]; exact q)).2.2.2.1
            have hg2 := gains_in (t := gainsAllP (coldP (y 0)) (flowsP (coldP (y 0)) (committeeP (rainedP (y 0))) (y 0 4).toNat) k) (i := k) (c := coldP (gainsAllP (coldP (y 0)) (flowsP (coldP (y 0)) (committeeP (rainedP (y 0))) (y 0 4).toNat) k))
            have hd0 := ((f1.tr hz.2).tr hk.2).1
            refine jx_iload_n E 0 dX6_goes_60 rfl ?_
            refine jx_aload_n E 1 dX6_goes_61 rfl ?_
            refine jx_get E f_X6 0 (v := .ref (b 1)) wm_obj (by decide) wf_X6_9 rfl dX6_goes_62 ?_
            refine jx_iconst E dX6_goes_65 ?_
            refine jx_iald E (v := (gainsAllP (coldP (y 0)) (flowsP (coldP (y 0)) (committeeP (rainedP (y 0))) (y 0 4).toNat) k) 4) wm_m (row0_at (by omega) (by omega)) (by omega) (by omega) (by decide) dX6_goes_66 ?_
            refine jx_icmp_ge (tgt := 100) E dX6_goes_67 (by decide) (fun c2 => ?_) (fun c2 => ?_)
            · skip
              refine jx_aload_n E 1 dX6_goes_100 rfl ?_
              refine jx_get E f_X6 0 (v := .ref (b 1)) wm_obj (by decide) wf_X6_9 rfl dX6_goes_101 ?_
              refine jx_iconst E dX6_goes_104 ?_
              refine jx_dup2 E dX6_goes_105 ?_
              refine jx_iald E (v := (gainsAllP (coldP (y 0)) (flowsP (coldP (y 0)) (committeeP (rainedP (y 0))) (y 0 4).toNat) k) 0) wm_m (row0_at (by omega) (by omega)) (by omega) (by omega) (by decide) dX6_goes_106 ?_
              refine jx_iconst E dX6_goes_107 ?_
              refine jx_iadd E dX6_goes_108 ?_
              refine jx_iast E wm_m (wq_m (by omega) (by omega)) (by omega) (by omega) (by decide) dX6_goes_109 ?_
              refine jx_eq (ws' := wsM G b (setc y 0 (updI (gainsAllP (coldP (y 0)) (flowsP (coldP (y 0)) (committeeP (rainedP (y 0))) (y 0 4).toNat) k) 0 (((gainsAllP (coldP (y 0)) (flowsP (coldP (y 0)) (committeeP (rainedP (y 0))) (y 0 4).toNat) k) 0) + 1)))) (congrArg (wsM G b) (by first | rfl | (rw [setc_setc]; rfl) | (simp only [setc_setc, setc_at]; done) | (simp only [setc_setc, setc_at]; rfl) | (funext d; simp only [setc_app]; (repeat' split) <;> first | rfl | omega | simp_all))) ?_
              exact jx_vret E hr dX6_goes_110 (by rw [hd0, show k = (y 0 4).toNat by omega]; rfl)
            · skip
              refine jx_aload_n E 1 dX6_goes_70 rfl ?_
              refine jx_iload_n E 0 dX6_goes_71 rfl ?_
              refine jx_iconst E dX6_goes_72 ?_
              refine jx_aload_n E 1 dX6_goes_73 rfl ?_
              refine jx_iload_n E 0 dX6_goes_74 rfl ?_
              refine jx_iconst E dX6_goes_75 ?_
              refine jx_callVi E [vI (k : Int), vI 3] [vI 3, vI (k : Int), .ref (b 0)] (c_X6_it l G b (setc y 0 (gainsAllP (coldP (y 0)) (flowsP (coldP (y 0)) (committeeP (rainedP (y 0))) (y 0 4).toNat) k)) (f := (k : Int)) (what := 3) (by omega) (by omega) (by omega) (by omega)) mb_X6_it mv_X6_it wl_X6_49 f_X6 wm_obj dX6_goes_76 ?_
              refine jx_st (st' := [vI ((gainsAllP (coldP (y 0)) (flowsP (coldP (y 0)) (committeeP (rainedP (y 0))) (y 0 4).toNat) k) (21 + 5 * (k : Int) + 3)), vI 3, vI (k : Int), .ref (b 0)]) (by first | rfl | (simp only [setc_at]; done) | (simp only [setc_at]; rfl)) ?_
              refine jx_aload_n E 1 dX6_goes_79 rfl ?_
              refine jx_iload_n E 0 dX6_goes_80 rfl ?_
              refine jx_callVi E [vI (k : Int)] [vI ((gainsAllP (coldP (y 0)) (flowsP (coldP (y 0)) (committeeP (rainedP (y 0))) (y 0 4).toNat) k) (21 + 5 * (k : Int) + 3)), vI 3, vI (k : Int), .ref (b 0)] (c_X6_gains l G b (setc y 0 (gainsAllP (coldP (y 0)) (flowsP (coldP (y 0)) (committeeP (rainedP (y 0))) (y 0 4).toNat) k)) (f := (k : Int)) (by omega) (by omega) (hk.1.2.2.2.2.2.2.2 _ (by omega) (by rw [hk4]; omega)) (VV_use hk.1).1 (VV_use hk.1).2) mb_X6_gains mv_X6_gains wl_X6_98 f_X6 wm_obj dX6_goes_81 ?_
              refine jx_st (st' := [vI (gainsP (gainsAllP (coldP (y 0)) (flowsP (coldP (y 0)) (committeeP (rainedP (y 0))) (y 0 4).toNat) k) (k : Int) (coldP (gainsAllP (coldP (y 0)) (flowsP (coldP (y 0)) (committeeP (rainedP (y 0))) (y 0 4).toNat) k))), vI ((gainsAllP (coldP (y 0)) (flowsP (coldP (y 0)) (committeeP (rainedP (y 0))) (y 0 4).toNat) k) (21 + 5 * (k : Int) + 3)), vI 3, vI (k : Int), .ref (b 0)]) (by first | rfl | (simp only [setc_at]; done) | (simp only [setc_at]; rfl)) ?_
              refine jx_iadd E dX6_goes_84 ?_
              refine jx_iconst E dX6_goes_85 ?_
              refine jx_bipush E dX6_goes_86 ?_
              refine jx_callSi E [vI (((gainsAllP (coldP (y 0)) (flowsP (coldP (y 0)) (committeeP (rainedP (y 0))) (y 0 4).toNat) k) (21 + 5 * (k : Int) + 3)) + (gainsP (gainsAllP (coldP (y 0)) (flowsP (coldP (y 0)) (committeeP (rainedP (y 0))) (y 0 4).toNat) k) (k : Int) (coldP (gainsAllP (coldP (y 0)) (flowsP (coldP (y 0)) (committeeP (rainedP (y 0))) (y 0 4).toNat) k)))), vI 0, vI 99] [vI 3, vI (k : Int), .ref (b 0)] (c_X6_held l G (wsM G b (setc y 0 (gainsAllP (coldP (y 0)) (flowsP (coldP (y 0)) (committeeP (rainedP (y 0))) (y 0 4).toNat) k))) (v := ((gainsAllP (coldP (y 0)) (flowsP (coldP (y 0)) (committeeP (rainedP (y 0))) (y 0 4).toNat) k) (21 + 5 * (k : Int) + 3)) + (gainsP (gainsAllP (coldP (y 0)) (flowsP (coldP (y 0)) (committeeP (rainedP (y 0))) (y 0 4).toNat) k) (k : Int) (coldP (gainsAllP (coldP (y 0)) (flowsP (coldP (y 0)) (committeeP (rainedP (y 0))) (y 0 4).toNat) k)))) (lo := 0) (hi := 99) (by unfold inR; omega) (by unfold inR; omega) (by unfold inR; omega)) mb_X6_held ms_X6_held wl_X6_53 dX6_goes_88 ?_
              refine jx_st (st' := [vI (if ((gainsAllP (coldP (y 0)) (flowsP (coldP (y 0)) (committeeP (rainedP (y 0))) (y 0 4).toNat) k) (21 + 5 * (k : Int) + 3)) + (gainsP (gainsAllP (coldP (y 0)) (flowsP (coldP (y 0)) (committeeP (rainedP (y 0))) (y 0 4).toNat) k) (k : Int) (coldP (gainsAllP (coldP (y 0)) (flowsP (coldP (y 0)) (committeeP (rainedP (y 0))) (y 0 4).toNat) k))) < 0 then 0 else if 99 < ((gainsAllP (coldP (y 0)) (flowsP (coldP (y 0)) (committeeP (rainedP (y 0))) (y 0 4).toNat) k) (21 + 5 * (k : Int) + 3)) + (gainsP (gainsAllP (coldP (y 0)) (flowsP (coldP (y 0)) (committeeP (rainedP (y 0))) (y 0 4).toNat) k) (k : Int) (coldP (gainsAllP (coldP (y 0)) (flowsP (coldP (y 0)) (committeeP (rainedP (y 0))) (y 0 4).toNat) k))) then 99 else ((gainsAllP (coldP (y 0)) (flowsP (coldP (y 0)) (committeeP (rainedP (y 0))) (y 0 4).toNat) k) (21 + 5 * (k : Int) + 3)) + (gainsP (gainsAllP (coldP (y 0)) (flowsP (coldP (y 0)) (committeeP (rainedP (y 0))) (y 0 4).toNat) k) (k : Int) (coldP (gainsAllP (coldP (y 0)) (flowsP (coldP (y 0)) (committeeP (rainedP (y 0))) (y 0 4).toNat) k)))), vI 3, vI (k : Int), .ref (b 0)]) (by first | rfl | (simp only [setc_at]; done) | (simp only [setc_at]; rfl)) ?_
              refine jx_callVv E [vI (k : Int), vI 3, vI (if ((gainsAllP (coldP (y 0)) (flowsP (coldP (y 0)) (committeeP (rainedP (y 0))) (y 0 4).toNat) k) (21 + 5 * (k : Int) + 3)) + (gainsP (gainsAllP (coldP (y 0)) (flowsP (coldP (y 0)) (committeeP (rainedP (y 0))) (y 0 4).toNat) k) (k : Int) (coldP (gainsAllP (coldP (y 0)) (flowsP (coldP (y 0)) (committeeP (rainedP (y 0))) (y 0 4).toNat) k))) < 0 then 0 else if 99 < ((gainsAllP (coldP (y 0)) (flowsP (coldP (y 0)) (committeeP (rainedP (y 0))) (y 0 4).toNat) k) (21 + 5 * (k : Int) + 3)) + (gainsP (gainsAllP (coldP (y 0)) (flowsP (coldP (y 0)) (committeeP (rainedP (y 0))) (y 0 4).toNat) k) (k : Int) (coldP (gainsAllP (coldP (y 0)) (flowsP (coldP (y 0)) (committeeP (rainedP (y 0))) (y 0 4).toNat) k))) then 99 else ((gainsAllP (coldP (y 0)) (flowsP (coldP (y 0)) (committeeP (rainedP (y 0))) (y 0 4).toNat) k) (21 + 5 * (k : Int) + 3)) + (gainsP (gainsAllP (coldP (y 0)) (flowsP (coldP (y 0)) (committeeP (rainedP (y 0))) (y 0 4).toNat) k) (k : Int) (coldP (gainsAllP (coldP (y 0)) (flowsP (coldP (y 0)) (committeeP (rainedP (y 0))) (y 0 4).toNat) k))))] [] (c_X6_put l G b (setc y 0 (gainsAllP (coldP (y 0)) (flowsP (coldP (y 0)) (committeeP (rainedP (y 0))) (y 0 4).toNat) k)) (f := (k : Int)) (what := 3) (v := (if ((gainsAllP (coldP (y 0)) (flowsP (coldP (y 0)) (committeeP (rainedP (y 0))) (y 0 4).toNat) k) (21 + 5 * (k : Int) + 3)) + (gainsP (gainsAllP (coldP (y 0)) (flowsP (coldP (y 0)) (committeeP (rainedP (y 0))) (y 0 4).toNat) k) (k : Int) (coldP (gainsAllP (coldP (y 0)) (flowsP (coldP (y 0)) (committeeP (rainedP (y 0))) (y 0 4).toNat) k))) < 0 then 0 else if 99 < ((gainsAllP (coldP (y 0)) (flowsP (coldP (y 0)) (committeeP (rainedP (y 0))) (y 0 4).toNat) k) (21 + 5 * (k : Int) + 3)) + (gainsP (gainsAllP (coldP (y 0)) (flowsP (coldP (y 0)) (committeeP (rainedP (y 0))) (y 0 4).toNat) k) (k : Int) (coldP (gainsAllP (coldP (y 0)) (flowsP (coldP (y 0)) (committeeP (rainedP (y 0))) (y 0 4).toNat) k))) then 99 else ((gainsAllP (coldP (y 0)) (flowsP (coldP (y 0)) (committeeP (rainedP (y 0))) (y 0 4).toNat) k) (21 + 5 * (k : Int) + 3)) + (gainsP (gainsAllP (coldP (y 0)) (flowsP (coldP (y 0)) (committeeP (rainedP (y 0))) (y 0 4).toNat) k) (k : Int) (coldP (gainsAllP (coldP (y 0)) (flowsP (coldP (y 0)) (committeeP (rainedP (y 0))) (y 0 4).toNat) k))))) (by omega) (by omega) (by omega) (by omega)) mb_X6_put mv_X6_put wl_X6_86 f_X6 wm_obj dX6_goes_91 ?_
              refine jx_eq (ws' := wsM G b (setc y 0 (updI (gainsAllP (coldP (y 0)) (flowsP (coldP (y 0)) (committeeP (rainedP (y 0))) (y 0 4).toNat) k) (21 + 5 * (k : Int) + 3) (if ((gainsAllP (coldP (y 0)) (flowsP (coldP (y 0)) (committeeP (rainedP (y 0))) (y 0 4).toNat) k) (21 + 5 * (k : Int) + 3)) + (gainsP (gainsAllP (coldP (y 0)) (flowsP (coldP (y 0)) (committeeP (rainedP (y 0))) (y 0 4).toNat) k) (k : Int) (coldP (gainsAllP (coldP (y 0)) (flowsP (coldP (y 0)) (committeeP (rainedP (y 0))) (y 0 4).toNat) k))) < 0 then 0 else if 99 < ((gainsAllP (coldP (y 0)) (flowsP (coldP (y 0)) (committeeP (rainedP (y 0))) (y 0 4).toNat) k) (21 + 5 * (k : Int) + 3)) + (gainsP (gainsAllP (coldP (y 0)) (flowsP (coldP (y 0)) (committeeP (rainedP (y 0))) (y 0 4).toNat) k) (k : Int) (coldP (gainsAllP (coldP (y 0)) (flowsP (coldP (y 0)) (committeeP (rainedP (y 0))) (y 0 4).toNat) k))) then 99 else ((gainsAllP (coldP (y 0)) (flowsP (coldP (y 0)) (committeeP (rainedP (y 0))) (y 0 4).toNat) k) (21 + 5 * (k : Int) + 3)) + (gainsP (gainsAllP (coldP (y 0)) (flowsP (coldP (y 0)) (committeeP (rainedP (y 0))) (y 0 4).toNat) k) (k : Int) (coldP (gainsAllP (coldP (y 0)) (flowsP (coldP (y 0)) (committeeP (rainedP (y 0))) (y 0 4).toNat) k))))))) (congrArg (wsM G b) (by first | rfl | (rw [setc_setc]; rfl) | (simp only [setc_setc, setc_at]; done) | (simp only [setc_setc, setc_at]; rfl) | (funext d; simp only [setc_app]; (repeat' split) <;> first | rfl | omega | simp_all))) ?_
              refine jx_iinc E 0 dX6_goes_94 rfl (by decide) [(1, vI ((k : Int) + 1)), (0, .ref (b 0))] rfl ?_
              refine jx_goto (tgt := 60) E dX6_goes_97 (by decide) ?_
              refine jx_eq (ws' := wsM G b (setc y 0 (gainsAllP (coldP (y 0)) (flowsP (coldP (y 0)) (committeeP (rainedP (y 0))) (y 0 4).toNat) (k + 1)))) (congrArg (fun z => wsM G b (setc y 0 (updI (gainsAllP (coldP (y 0)) (flowsP (coldP (y 0)) (committeeP (rainedP (y 0))) (y 0 4).toNat) k) (21 + 5 * (k : Int) + 3) z))) (by rw [hkc]; omega)) ?_
              exact ih (k + 1) (by omega) (by omega)
        rw [show k = (y 0 4).toNat by omega]
        exact LP60 9 0 (by omega) (by omega)
      · skip
        refine jx_aload_n E 1 dX6_goes_47 rfl ?_
        refine jx_iload_n E 0 dX6_goes_48 rfl ?_
        refine jx_callVv E [vI (k : Int)] [] (c_X6_flows l G b (setc y 0 (flowsP (coldP (y 0)) (committeeP (rainedP (y 0))) k)) (f := (k : Int)) (VT_flows (c := coldP (y 0)) w1.1 k (by rw [e1]; omega)).1 (by show 0 ≤ (k : Int) ∧ (k : Int) < flowsP (coldP (y 0)) (committeeP (rainedP (y 0))) k 4; rw [hk4]; omega)) mb_X6_flows mv_X6_flows wl_X6_119 f_X6 wm_obj dX6_goes_49 ?_
        refine jx_eq (ws' := wsM G b (setc y 0 (flowP (coldP (flowsP (coldP (y 0)) (committeeP (rainedP (y 0))) k)) (flowsP (coldP (y 0)) (committeeP (rainedP (y 0))) k) (k : Int)))) (congrArg (wsM G b) (by first | rfl | (rw [setc_setc]; rfl) | (simp only [setc_setc, setc_at]; done) | (simp only [setc_setc, setc_at]; rfl) | (funext d; simp only [setc_app]; (repeat' split) <;> first | rfl | omega | simp_all))) ?_
        refine jx_iinc E 0 dX6_goes_52 rfl (by decide) [(1, vI ((k : Int) + 1)), (0, .ref (b 0))] rfl ?_
        refine jx_goto (tgt := 37) E dX6_goes_55 (by decide) ?_
        refine jx_eq (ws' := wsM G b (setc y 0 (flowsP (coldP (y 0)) (committeeP (rainedP (y 0))) (k + 1)))) (congrArg (fun z => wsM G b (setc y 0 (flowP z (flowsP (coldP (y 0)) (committeeP (rainedP (y 0))) k) k))) hkc) ?_
        exact ih (k + 1) (by omega) (by omega)
  exact LP37 9 0 (by omega) (by omega)
set_option maxHeartbeats 4000000 in
theorem c_X6_goesFor (l : Launch) (G : GT) (b : Nat → Nat) (y : MS) {n : Int} (h1 : VT 1000000 (y 0)) (h2 : 0 ≤ n ∧ n ≤ 1000) : CtV l G yX6_goesFor cX6_goesFor 3 none 6 [.ref (b 0), vI n] (wsM G b y) (wsM G b (setc y 0 (daysP n.toNat (y 0)))) := by
  refine CtV.of (by decide) (Nat.le_of_ble_eq_true rfl) ?_
  intro p e s m args below meth c A E hr
  refine jx_lv (lv' := [(0, .ref (b 0)), (1, vI n)]) [0, 1] rfl ?_
  refine jx_iconst E dX6_goesFor_0 ?_
  refine jx_istore_n E dX6_goesFor_1 (by decide) [(2, vI 0), (0, .ref (b 0)), (1, vI n)] rfl ?_
  have LP2 : ∀ (n2 : Nat) (k : Nat), ((k : Int) ≤ n) → (n - (k : Int) < n2) → JX p l e (rmL 6) s m args below meth c 3 G A 0 0 (QV below args s G A (wsM G b (setc y 0 (daysP n.toNat (y 0))))) (wsM G b (setc y 0 (daysP k (y 0)))) 2 [(2, vI (k : Int)), (0, .ref (b 0)), (1, vI n)] [] := by
    intro n2
    induction n2 with
    | zero => intro k q1 q2; exfalso; omega
    | succ n2 ih =>
      intro k q1 q2
      refine jx_iload_n E 0 dX6_goesFor_2 rfl ?_
      refine jx_iload_n E 2 dX6_goesFor_3 rfl ?_
      refine jx_icmp_ge (tgt := 17) E dX6_goesFor_4 (by decide) (fun c1 => ?_) (fun c1 => ?_)
      · skip
        exact jx_vret E hr dX6_goesFor_17 (by rw [show k = n.toNat by omega])
      · skip
        refine jx_aload_n E 1 dX6_goesFor_7 rfl ?_
        refine jx_callVv E [] [] (c_X6_goes l G b (setc y 0 (daysP k (y 0)))  (VT_up (VT_days h1 k) (by omega))) mb_X6_goes mv_X6_goes wl_X6_122 f_X6 wm_obj dX6_goesFor_8 ?_
        refine jx_eq (ws' := wsM G b (setc y 0 (dayP (daysP k (y 0))))) (congrArg (wsM G b) (by first | rfl | (rw [setc_setc]; rfl) | (simp only [setc_setc, setc_at]; done) | (simp only [setc_setc, setc_at]; rfl) | (funext d; simp only [setc_app]; (repeat' split) <;> first | rfl | omega | simp_all))) ?_
        refine jx_iinc E 0 dX6_goesFor_11 rfl (by decide) [(2, vI ((k : Int) + 1)), (0, .ref (b 0)), (1, vI n)] rfl ?_
        refine jx_goto (tgt := 2) E dX6_goesFor_14 (by decide) ?_
        exact ih (k + 1) (by omega) (by omega)
  refine jx_eq (ws' := wsM G b (setc y 0 (daysP 0 (y 0)))) (congrArg (wsM G b) (setc_self y 0).symm) ?_
  exact LP2 1001 0 (by omega) (by omega)
set_option maxHeartbeats 4000000 in
theorem c_X6_thinks (l : Launch) (G : GT) (b : Nat → Nat) (y : MS) : CtV l G yX6_thinks cX6_thinks 1 none 2 [.ref (b 0)] (wsM G b y) (wsM G b (setc (setc y 2 (y 0)) 0 (y 0))) := by
  refine CtV.of (by decide) (Nat.le_of_ble_eq_true rfl) ?_
  intro p e s m args below meth c A E hr
  refine jx_lv (lv' := [(0, .ref (b 0))]) [0] rfl ?_
  refine jx_aload_n E 0 dX6_thinks_0 rfl ?_
  refine jx_get E f_X6 0 (v := .ref (b 1)) wm_obj (by decide) wf_X6_9 rfl dX6_thinks_1 ?_
  refine jx_aload_n E 0 dX6_thinks_4 rfl ?_
  refine jx_get E f_X6 2 (v := .ref (b 3)) wm_obj (by decide) wf_X6_16 rfl dX6_thinks_5 ?_
  refine jx_callSv E [.ref (b 1), .ref (b 3)] [] (c_X6_copyAll_m_was l G b y  ) mb_X6_copyAll ms_X6_copyAll wl_X6_130 dX6_thinks_8 ?_
  exact jx_vret E hr dX6_thinks_11 (congrArg (wsM G b) (setc_self (setc y 2 (y 0)) 0).symm)
set_option maxHeartbeats 4000000 in
theorem c_X6_putsBack (l : Launch) (G : GT) (b : Nat → Nat) (y : MS) : CtV l G yX6_putsBack cX6_putsBack 1 none 2 [.ref (b 0)] (wsM G b y) (wsM G b (setc y 0 (y 2))) := by
  refine CtV.of (by decide) (Nat.le_of_ble_eq_true rfl) ?_
  intro p e s m args below meth c A E hr
  refine jx_lv (lv' := [(0, .ref (b 0))]) [0] rfl ?_
  refine jx_aload_n E 0 dX6_putsBack_0 rfl ?_
  refine jx_get E f_X6 2 (v := .ref (b 3)) wm_obj (by decide) wf_X6_16 rfl dX6_putsBack_1 ?_
  refine jx_aload_n E 0 dX6_putsBack_4 rfl ?_
  refine jx_get E f_X6 0 (v := .ref (b 1)) wm_obj (by decide) wf_X6_9 rfl dX6_putsBack_5 ?_
  refine jx_callSv E [.ref (b 3), .ref (b 1)] [] (c_X6_copyAll_was_m l G b y  ) mb_X6_copyAll ms_X6_copyAll wl_X6_130 dX6_putsBack_8 ?_
  exact jx_vret E hr dX6_putsBack_11 (by first | rfl | (congr 1; done))
set_option maxHeartbeats 4000000 in
theorem c_X6_offIn (l : Launch) (G : GT) (b : Nat → Nat) (y : MS) {f : Int} (h1 : VT 1000000 (y 0)) (h2 : 0 ≤ f ∧ f < y 0 4) : CtI l G yX6_offIn cX6_offIn 3 (some .int) 6 [.ref (b 0), vI f] (wsM G b y) (offF f 401 (y 0)) (wsM G b (setc y 0 (y 2))) := by
  have h4 := h1.2.2.2.2.1
  refine CtI.of (by decide) (Nat.le_of_ble_eq_true rfl) ?_
  intro p e s m args below meth c A E hr
  refine jx_lv (lv' := [(0, .ref (b 0)), (1, vI f)]) [0, 1] rfl ?_
  refine jx_iconst E dX6_offIn_0 ?_
  refine jx_istore_n E dX6_offIn_1 (by decide) [(2, vI 0), (0, .ref (b 0)), (1, vI f)] rfl ?_
  have LP2 : ∀ (n2 : Nat) (k : Nat) (T : Int → Int), (k ≤ 401) → (k < n2) → (VT (1000401 - k) T) → (T 4 = y 0 4) → (offF f k T = offF f 401 (y 0)) → JX p l e (rmL 6) s m args below meth c 3 G A 0 0 (QI below args s G A (offF f 401 (y 0)) (wsM G b (setc y 0 (y 2)))) (wsM G b (setc y 0 T)) 2 [(2, vI (401 - (k : Int))), (0, .ref (b 0)), (1, vI f)] [] := by
    intro n2
    induction n2 with
    | zero => intro k T q1 q2 hT hT4 hQ; exfalso; omega
    | succ n2 ih =>
      intro k T q1 q2 hT hT4 hQ
      have hoff := (hT.2.2.2.2.2.2.2 f h2.1 (by rw [hT4]; omega)).2.2.1
      refine jx_iload_n E 0 dX6_offIn_2 rfl ?_
      refine jx_sipush E dX6_offIn_3 ?_
      refine jx_icmp_gt (tgt := 27) E dX6_offIn_6 (by decide) (fun c1 => ?_) (fun c1 => ?_)
      · skip
        refine jx_aload_n E 1 dX6_offIn_27 rfl ?_
        refine jx_callVv E [] [] (c_X6_putsBack l G b (setc y 0 T)  ) mb_X6_putsBack mv_X6_putsBack wl_X6_137 f_X6 wm_obj dX6_offIn_28 ?_
        refine jx_eq (ws' := wsM G b (setc y 0 (y 2))) (congrArg (wsM G b) (by first | rfl | (rw [setc_setc]; rfl) | (simp only [setc_setc, setc_at]; done) | (simp only [setc_setc, setc_at]; rfl) | (funext d; simp only [setc_app]; (repeat' split) <;> first | rfl | omega | simp_all))) ?_
        refine jx_iload_n E 0 dX6_offIn_31 rfl ?_
        exact jx_iret E hr dX6_offIn_32 (by rw [← hQ]; rcases (show k = 0 ∨ ∃ k', k = k' + 1 from by rcases k with _ | k'; exact Or.inl rfl; exact Or.inr ⟨k', rfl⟩) with e | ⟨k', e⟩ <;> subst e <;> simp only [offF] <;> omega) (by first | rfl | (congr 1; done))
      · skip
        refine jx_aload_n E 1 dX6_offIn_9 rfl ?_
        refine jx_iload_n E 2 dX6_offIn_10 rfl ?_
        refine jx_callVi E [vI f] [] (c_X6_isOff l G b (setc y 0 T) (f := f) (by omega) (by omega) (hT.2.2.2.2.2.2.2 f h2.1 (by rw [hT4]; omega)).2.2.1) mb_X6_isOff mv_X6_isOff wl_X6_57 f_X6 wm_obj dX6_offIn_11 ?_
        refine jx_st (st' := [vI (if T (21 + 5 * f + 2) = 1 then 1 else 0)]) (by first | rfl | (simp only [setc_at]; done) | (simp only [setc_at]; rfl)) ?_
        refine jx_if_ne (tgt := 27) E dX6_offIn_14 (by decide) (fun c2 => ?_) (fun c2 => ?_)
        · skip
          refine jx_aload_n E 1 dX6_offIn_27 rfl ?_
          refine jx_callVv E [] [] (c_X6_putsBack l G b (setc y 0 T)  ) mb_X6_putsBack mv_X6_putsBack wl_X6_137 f_X6 wm_obj dX6_offIn_28 ?_
          refine jx_eq (ws' := wsM G b (setc y 0 (y 2))) (congrArg (wsM G b) (by first | rfl | (rw [setc_setc]; rfl) | (simp only [setc_setc, setc_at]; done) | (simp only [setc_setc, setc_at]; rfl) | (funext d; simp only [setc_app]; (repeat' split) <;> first | rfl | omega | simp_all))) ?_
          refine jx_iload_n E 0 dX6_offIn_31 rfl ?_
          exact jx_iret E hr dX6_offIn_32 (by rw [← hQ]; rcases (show k = 0 ∨ ∃ k', k = k' + 1 from by rcases k with _ | k'; exact Or.inl rfl; exact Or.inr ⟨k', rfl⟩) with e | ⟨k', e⟩ <;> subst e <;> simp only [offF] <;> omega) (by first | rfl | (congr 1; done))
        · skip
          refine jx_aload_n E 1 dX6_offIn_17 rfl ?_
          refine jx_callVv E [] [] (c_X6_goes l G b (setc y 0 T)  (VT_up hT (by omega))) mb_X6_goes mv_X6_goes wl_X6_122 f_X6 wm_obj dX6_offIn_18 ?_
          refine jx_eq (ws' := wsM G b (setc y 0 (dayP T))) (congrArg (wsM G b) (by first | rfl | (rw [setc_setc]; rfl) | (simp only [setc_setc, setc_at]; done) | (simp only [setc_setc, setc_at]; rfl) | (funext d; simp only [setc_app]; (repeat' split) <;> first | rfl | omega | simp_all))) ?_
          refine jx_iinc E 0 dX6_offIn_21 rfl (by decide) [(2, vI (401 - (k : Int) + 1)), (0, .ref (b 0)), (1, vI f)] rfl ?_
          refine jx_goto (tgt := 2) E dX6_offIn_24 (by decide) ?_
          obtain ⟨k', rfl⟩ : ∃ k', k = k' + 1 := ⟨k - 1, by omega⟩
          refine jx_lve (congrArg (fun z => [(2, vI z), (0, Value.ref (b 0)), (1, vI f)]) (show 401 - ((k' + 1 : Nat) : Int) + 1 = 401 - (k' : Int) by omega)) ?_
          exact ih k' (dayP T) (by omega) (by omega) (VT_up (VT_day hT) (by omega)) (by rw [day_4 hT, hT4]) (by rw [← hQ, offF, if_neg (by omega)])
  refine jx_eq (ws' := wsM G b (setc y 0 (y 0))) (congrArg (wsM G b) (setc_self y 0).symm) ?_
  exact LP2 402 401 (y 0) (by omega) (by omega) (VT_up h1 (by omega)) rfl rfl
set_option maxHeartbeats 4000000 in
theorem c_X6_stoopedOn (l : Launch) (G : GT) (b : Nat → Nat) (y : MS) {n : Int} (h1 : VT 1000000 (y 0)) (h2 : 0 ≤ n ∧ n ≤ 1000) : CtI l G yX6_stoopedOn cX6_stoopedOn 3 (some .int) 7 [.ref (b 0), vI n] (wsM G b y) (stoopedP (daysP n.toNat (y 0))) (wsM G b (setc y 0 (y 2))) := by
  have hv := VT_days h1 n.toNat
  refine CtI.of (by decide) (Nat.le_of_ble_eq_true rfl) ?_
  intro p e s m args below meth c A E hr
  refine jx_lv (lv' := [(0, .ref (b 0)), (1, vI n)]) [0, 1] rfl ?_
  refine jx_aload_n E 0 dX6_stoopedOn_0 rfl ?_
  refine jx_iload_n E 1 dX6_stoopedOn_1 rfl ?_
  refine jx_callVv E [vI n] [] (c_X6_goesFor l G b y (n := n) h1 h2) mb_X6_goesFor mv_X6_goesFor wl_X6_127 f_X6 wm_obj dX6_stoopedOn_2 ?_
  refine jx_aload_n E 0 dX6_stoopedOn_5 rfl ?_
  refine jx_callVi E [] [] (c_X6_allStooped l G b (setc y 0 (daysP n.toNat (y 0)))  (VT_up hv (by omega))) mb_X6_allStooped mv_X6_allStooped wl_X6_143 f_X6 wm_obj dX6_stoopedOn_6 ?_
  refine jx_st (st' := [vI (stoopedP (daysP n.toNat (y 0)))]) (by first | rfl | (simp only [setc_at]; done) | (simp only [setc_at]; rfl)) ?_
  refine jx_istore_n E dX6_stoopedOn_9 (by decide) [(2, vI (stoopedP (daysP n.toNat (y 0)))), (0, .ref (b 0)), (1, vI n)] rfl ?_
  refine jx_aload_n E 1 dX6_stoopedOn_10 rfl ?_
  refine jx_callVv E [] [] (c_X6_putsBack l G b (setc y 0 (daysP n.toNat (y 0)))  ) mb_X6_putsBack mv_X6_putsBack wl_X6_137 f_X6 wm_obj dX6_stoopedOn_11 ?_
  refine jx_eq (ws' := wsM G b (setc y 0 (y 2))) (congrArg (wsM G b) (by first | rfl | (rw [setc_setc]; rfl) | (simp only [setc_setc, setc_at]; done) | (simp only [setc_setc, setc_at]; rfl) | (funext d; simp only [setc_app]; (repeat' split) <;> first | rfl | omega | simp_all))) ?_
  refine jx_iload_n E 0 dX6_stoopedOn_14 rfl ?_
  exact jx_iret E hr dX6_stoopedOn_15 (by first | rfl | omega) (by first | rfl | (congr 1; done))
set_option maxHeartbeats 4000000 in
theorem c_X6_staysUp (l : Launch) (G : GT) (b : Nat → Nat) (y : MS) {f n : Int} (h1 : VT 1000000 (y 0)) (h2 : 0 ≤ f ∧ f < y 0 4) (h3 : 0 ≤ n ∧ n ≤ 1000) : CtI l G yX6_staysUp cX6_staysUp 5 (some .boolean) 7 [.ref (b 0), vI f, vI n] (wsM G b y) (staysI (y 0) f n.toNat) (wsM G b (setc y 0 (y 2))) := by
  have h4 := h1.2.2.2.2.1
  have hv := VT_days h1 n.toNat
  have hf := (hv.2.2.2.2.2.2.2 f h2.1 (by rw [days_4 h1]; exact h2.2)).2.2.2.2
  have hg := (h1.2.2.2.2.2.2.2 f h2.1 h2.2).2.2.2.2
  refine CtI.of (by decide) (Nat.le_of_ble_eq_true rfl) ?_
  intro p e s m args below meth c A E hr
  refine jx_lv (lv' := [(0, .ref (b 0)), (1, vI f), (2, vI n)]) [0, 1, 2] rfl ?_
  refine jx_aload_n E 0 dX6_staysUp_0 rfl ?_
  refine jx_iload_n E 1 dX6_staysUp_1 rfl ?_
  refine jx_iconst E dX6_staysUp_2 ?_
  refine jx_callVi E [vI f, vI 4] [] (c_X6_it l G b y (f := f) (what := 4) (by omega) (by omega) (by omega) (by omega)) mb_X6_it mv_X6_it wl_X6_49 f_X6 wm_obj dX6_staysUp_3 ?_
  refine jx_istore_n E dX6_staysUp_6 (by decide) [(3, vI ((y 0) (21 + 5 * f + 4))), (0, .ref (b 0)), (1, vI f), (2, vI n)] rfl ?_
  refine jx_aload_n E 1 dX6_staysUp_7 rfl ?_
  refine jx_iload_n E 3 dX6_staysUp_8 rfl ?_
  refine jx_callVv E [vI n] [] (c_X6_goesFor l G b y (n := n) h1 h3) mb_X6_goesFor mv_X6_goesFor wl_X6_127 f_X6 wm_obj dX6_staysUp_9 ?_
  refine jx_aload_n E 1 dX6_staysUp_12 rfl ?_
  refine jx_iload_n E 2 dX6_staysUp_13 rfl ?_
  refine jx_iconst E dX6_staysUp_14 ?_
  refine jx_callVi E [vI f, vI 4] [] (c_X6_it l G b (setc y 0 (daysP n.toNat (y 0))) (f := f) (what := 4) (by omega) (by omega) (by omega) (by omega)) mb_X6_it mv_X6_it wl_X6_49 f_X6 wm_obj dX6_staysUp_15 ?_
  refine jx_st (st' := [vI ((daysP n.toNat (y 0)) (21 + 5 * f + 4))]) (by first | rfl | (simp only [setc_at]; done) | (simp only [setc_at]; rfl)) ?_
  refine jx_iload_n E 0 dX6_staysUp_18 rfl ?_
  refine jx_icmp_ne (tgt := 26) E dX6_staysUp_19 (by decide) (fun c1 => ?_) (fun c1 => ?_)
  · skip
    refine jx_iconst E dX6_staysUp_26 ?_
    refine jx_istore E dX6_staysUp_27 (by decide) [(4, vI 0), (3, vI ((y 0) (21 + 5 * f + 4))), (0, .ref (b 0)), (1, vI f), (2, vI n)] rfl ?_
    refine jx_aload_n E 2 dX6_staysUp_29 rfl ?_
    refine jx_callVv E [] [] (c_X6_putsBack l G b (setc y 0 (daysP n.toNat (y 0)))  ) mb_X6_putsBack mv_X6_putsBack wl_X6_137 f_X6 wm_obj dX6_staysUp_30 ?_
    refine jx_eq (ws' := wsM G b (setc y 0 (y 2))) (congrArg (wsM G b) (by first | rfl | (rw [setc_setc]; rfl) | (simp only [setc_setc, setc_at]; done) | (simp only [setc_setc, setc_at]; rfl) | (funext d; simp only [setc_app]; (repeat' split) <;> first | rfl | omega | simp_all))) ?_
    refine jx_iload E 0 dX6_staysUp_33 rfl ?_
    exact jx_zret E hr dX6_staysUp_35 (by simp only [staysI]; omega) (by first | rfl | (congr 1; done)) (by first | exact Or.inl rfl | exact Or.inr rfl | omega)
  · skip
    refine jx_iconst E dX6_staysUp_22 ?_
    refine jx_goto (tgt := 27) E dX6_staysUp_23 (by decide) ?_
    refine jx_istore E dX6_staysUp_27 (by decide) [(4, vI 1), (3, vI ((y 0) (21 + 5 * f + 4))), (0, .ref (b 0)), (1, vI f), (2, vI n)] rfl ?_
    refine jx_aload_n E 2 dX6_staysUp_29 rfl ?_
    refine jx_callVv E [] [] (c_X6_putsBack l G b (setc y 0 (daysP n.toNat (y 0)))  ) mb_X6_putsBack mv_X6_putsBack wl_X6_137 f_X6 wm_obj dX6_staysUp_30 ?_
    refine jx_eq (ws' := wsM G b (setc y 0 (y 2))) (congrArg (wsM G b) (by first | rfl | (rw [setc_setc]; rfl) | (simp only [setc_setc, setc_at]; done) | (simp only [setc_setc, setc_at]; rfl) | (funext d; simp only [setc_app]; (repeat' split) <;> first | rfl | omega | simp_all))) ?_
    refine jx_iload E 0 dX6_staysUp_33 rfl ?_
    exact jx_zret E hr dX6_staysUp_35 (by simp only [staysI]; omega) (by first | rfl | (congr 1; done)) (by first | exact Or.inl rfl | exact Or.inr rfl | omega)
