/-! 55.t3: laid by the walker out of specT3 -/
set_option maxHeartbeats 4000000 in
theorem c_X6_passes (l : Launch) (G : GT) (b : Nat → Nat) (y : MS) {wd : Int} (h1 : MG (y 4) (y 8)) (h2 : 0 ≤ wd ∧ wd ≤ 23) : CtI l G yX6_passes cX6_passes 2 (some .boolean) 4 [.ref (b 0), vI wd] (wsM G b y) (paO (y 8) wd) (wsM G b (setc y 8 (paM (y 4) (y 8) wd))) := by
  obtain ⟨⟨hn, hp, hw⟩, h3s, h2s, h5s, h6s, h21⟩ := id h1
  refine CtI.of (by decide) (Nat.le_of_ble_eq_true rfl) ?_
  intro p e s m args below meth c A E hr
  refine jx_lv (lv' := [(0, .ref (b 0)), (1, vI wd)]) [0, 1] rfl ?_
  refine jx_aload_n E 0 dX6_passes_0 rfl ?_
  refine jx_get E f_X6 11 (v := vI ((y 8) 6)) wm_obj (by decide) wf_X6_182 rfl dX6_passes_1 ?_
  refine jx_if_ne (tgt := 15) E dX6_passes_4 (by decide) (fun c1 => ?_) (fun c1 => ?_)
  · skip
    refine jx_iconst E dX6_passes_15 ?_
    exact jx_zret E hr dX6_passes_16 (by unfold paO; omega) (by rw [pa_no (by unfold paO; omega), setc_self]) (by first | exact Or.inl rfl | exact Or.inr rfl | omega)
  · skip
    refine jx_aload_n E 0 dX6_passes_7 rfl ?_
    refine jx_get E f_X6 7 (v := vI ((y 8) 2)) wm_obj (by decide) wf_X6_176 rfl dX6_passes_8 ?_
    refine jx_iload_n E 1 dX6_passes_11 rfl ?_
    refine jx_icmp_eq (tgt := 17) E dX6_passes_12 (by decide) (fun c2 => ?_) (fun c2 => ?_)
    · skip
      refine jx_aload_n E 0 dX6_passes_17 rfl ?_
      refine jx_callVv E [] [] (c_X6_reads l G b y  h1.1) mb_X6_reads mv_X6_reads wl_X6_186 f_X6 wm_obj dX6_passes_18 ?_
      refine jx_iconst E dX6_passes_21 ?_
      exact jx_zret E hr dX6_passes_22 (by unfold paO; omega) (by rw [pa_y (by unfold paO; omega)]) (by first | exact Or.inl rfl | exact Or.inr rfl | omega)
    · skip
      refine jx_iconst E dX6_passes_15 ?_
      exact jx_zret E hr dX6_passes_16 (by unfold paO; omega) (by rw [pa_no (by unfold paO; omega), setc_self]) (by first | exact Or.inl rfl | exact Or.inr rfl | omega)
set_option maxHeartbeats 4000000 in
theorem c_X6_number (l : Launch) (G : GT) (b : Nat → Nat) (y : MS) {lo hi : Int} (h1 : MG (y 4) (y 8)) (h2 : inR lo) (h3 : inR hi) : CtI l G yX6_number cX6_number 4 (some .int) 4 [.ref (b 0), vI lo, vI hi] (wsM G b y) ((y 8) 5) (wsM G b (setc y 8 (nuM (y 4) (y 8) lo hi))) := by
  obtain ⟨⟨hn, hp, hw⟩, h3s, h2s, h5s, h6s, h21⟩ := id h1
  unfold inR at h2 h3
  refine CtI.of (by decide) (Nat.le_of_ble_eq_true rfl) ?_
  intro p e s m args below meth c A E hr
  refine jx_lv (lv' := [(0, .ref (b 0)), (1, vI lo), (2, vI hi)]) [0, 1, 2] rfl ?_
  refine jx_aload_n E 0 dX6_number_0 rfl ?_
  refine jx_get E f_X6 10 (v := vI ((y 8) 5)) wm_obj (by decide) wf_X6_173 rfl dX6_number_1 ?_
  refine jx_istore_n E dX6_number_4 (by decide) [(3, vI ((y 8) 5)), (0, .ref (b 0)), (1, vI lo), (2, vI hi)] rfl ?_
  refine jx_aload_n E 1 dX6_number_5 rfl ?_
  have JN37 : ∀ (u : Int), (u = if nuG (y 8) lo hi then 0 else 1) → JX p l e (rmL 4) s m args below meth c 4 G A 0 0 (QI below args s G A ((y 8) 5) (wsM G b (setc y 8 (nuM (y 4) (y 8) lo hi)))) (wsM G b y) 37 [(3, vI ((y 8) 5)), (0, .ref (b 0)), (1, vI lo), (2, vI hi)] [vI u, .ref (b 0)] := by
    intro u hu
    refine jx_put E f_X6 11 wm_obj (by decide) wf_X6_182 rfl (by first | rfl | exact narZ (by omega)) (by first | rfl | exact fitZ (by omega)) (Nat.le_of_ble_eq_true rfl) wq_obj11 dX6_number_37 ?_
    refine jx_aload_n E 1 dX6_number_40 rfl ?_
    refine jx_get E f_X6 11 (v := vI u) wm_obj (by decide) wf_X6_182 (by first | rfl | (simp only [setc_at, List.getElem?_cons_zero, List.getElem?_cons_succ]; done) | (simp [setc_at]; done)) dX6_number_41 ?_
    refine jx_if_ne (tgt := 51) E dX6_number_44 (by decide) (fun c1 => ?_) (fun c1 => ?_)
    · skip
      refine jx_iload_n E 0 dX6_number_51 rfl ?_
      exact jx_iret E hr dX6_number_52 rfl (by unfold nuM; rw [if_neg (by omega), show u = 1 by omega])
    · skip
      refine jx_aload_n E 1 dX6_number_47 rfl ?_
      refine jx_callVv E [] [] (c_X6_reads l G b (setc y 8 (updI (y 8) 6 u))  (show TG (y 4) (updI (y 8) 6 u) from h1.1)) mb_X6_reads mv_X6_reads wl_X6_186 f_X6 wm_obj dX6_number_48 ?_
      refine jx_eq (ws' := wsM G b (setc y 8 (rdM (y 4) (updI (y 8) 6 u)))) (congrArg (wsM G b) (by first | rfl | (rw [setc_setc]; rfl) | exact setc_in _ _ _ _ (by decide) | exact setc_in2 _ _ _ _ _ (by decide) (by decide) | (rw [setc_in _ _ _ _ (by decide), setc_in _ _ _ _ (by decide)]; rfl) | (rw [setc_in _ _ _ _ (by decide), setc_setc]; rfl) | (simp only [setc_setc, setc_at]; done) | (simp only [setc_setc, setc_at]; rfl) | (funext d; simp only [setc_app]; (repeat' split) <;> first | rfl | omega))) ?_
      refine jx_iload_n E 0 dX6_number_51 rfl ?_
      exact jx_iret E hr dX6_number_52 rfl (by unfold nuM; rw [if_pos (by omega), show u = 0 by omega])
  refine jx_aload_n E 1 dX6_number_6 rfl ?_
  refine jx_get E f_X6 11 (v := vI ((y 8) 6)) wm_obj (by decide) wf_X6_182 rfl dX6_number_7 ?_
  refine jx_if_ne (tgt := 32) E dX6_number_10 (by decide) (fun c2 => ?_) (fun c2 => ?_)
  · skip
    refine jx_iconst E dX6_number_32 ?_
    refine jx_goto (tgt := 37) E dX6_number_33 (by decide) ?_
    exact JN37 _ (by omega)
  · skip
    refine jx_aload_n E 1 dX6_number_13 rfl ?_
    refine jx_get E f_X6 7 (v := vI ((y 8) 2)) wm_obj (by decide) wf_X6_176 rfl dX6_number_14 ?_
    refine jx_bipush E dX6_number_17 ?_
    refine jx_icmp_ne (tgt := 32) E dX6_number_19 (by decide) (fun c3 => ?_) (fun c3 => ?_)
    · skip
      refine jx_iconst E dX6_number_32 ?_
      refine jx_goto (tgt := 37) E dX6_number_33 (by decide) ?_
      exact JN37 _ (by omega)
    · skip
      refine jx_iload_n E 0 dX6_number_22 rfl ?_
      refine jx_i2l E dX6_number_23 ?_
      refine jx_iload_n E 2 dX6_number_24 rfl ?_
      refine jx_iload_n E 3 dX6_number_25 rfl ?_
      refine jx_callSi E [vL ((y 8) 5), vI lo, vI hi] [.ref (b 0)] (c_X6_in l G (wsM G b y) (v := (y 8) 5) (lo := lo) (hi := hi) (by unfold inL; omega) (by unfold inR; omega) (by unfold inR; omega)) mb_X6_in ms_X6_in wl_X6_41 dX6_number_26 ?_
      refine jx_if_ne (tgt := 36) E dX6_number_29 (by decide) (fun c4 => ?_) (fun c4 => ?_)
      · skip
        refine jx_iconst E dX6_number_36 ?_
        exact JN37 _ (by omega)
      · skip
        refine jx_iconst E dX6_number_32 ?_
        refine jx_goto (tgt := 37) E dX6_number_33 (by decide) ?_
        exact JN37 _ (by omega)
set_option maxHeartbeats 4000000 in
theorem c_X6_perhaps (l : Launch) (G : GT) (b : Nat → Nat) (y : MS) {wd lo hi so : Int} (h1 : MG (y 4) (y 8)) (h2 : 0 ≤ wd ∧ wd ≤ 23) (h3 : inR lo) (h4 : inR hi) : CtI l G yX6_perhaps cX6_perhaps 5 (some .int) 5 [.ref (b 0), vI wd, vI lo, vI hi, vI so] (wsM G b y) (peV (y 4) (y 8) wd so) (wsM G b (setc y 8 (peM (y 4) (y 8) wd lo hi))) := by
  have hpi := paO_in (y 8) wd
  refine CtI.of (by decide) (Nat.le_of_ble_eq_true rfl) ?_
  intro p e s m args below meth c A E hr
  refine jx_lv (lv' := [(0, .ref (b 0)), (1, vI wd), (2, vI lo), (3, vI hi), (4, vI so)]) [0, 1, 2, 3, 4] rfl ?_
  refine jx_aload_n E 0 dX6_perhaps_0 rfl ?_
  refine jx_iload_n E 1 dX6_perhaps_1 rfl ?_
  refine jx_callVi E [vI wd] [] (c_X6_passes l G b y (wd := wd) h1 h2) mb_X6_passes mv_X6_passes wl_X6_189 f_X6 wm_obj dX6_perhaps_2 ?_
  refine jx_if_eq (tgt := 17) E dX6_perhaps_5 (by decide) (fun c1 => ?_) (fun c1 => ?_)
  · skip
    refine jx_eq (ws' := wsM G b y) (congrArg (wsM G b) (by rw [pa_no (by omega), setc_self])) ?_
    refine jx_iload E 4 dX6_perhaps_17 rfl ?_
    exact jx_iret E hr dX6_perhaps_19 (by unfold peV; rw [if_neg (by omega)]) (by unfold peM; rw [if_neg (by omega), setc_self])
  · skip
    refine jx_eq (ws' := wsM G b (setc y 8 (rdM (y 4) (y 8)))) (congrArg (wsM G b) (by rw [pa_y (by omega)])) ?_
    refine jx_aload_n E 0 dX6_perhaps_8 rfl ?_
    refine jx_iload_n E 2 dX6_perhaps_9 rfl ?_
    refine jx_iload_n E 3 dX6_perhaps_10 rfl ?_
    refine jx_callVi E [vI lo, vI hi] [] (c_X6_number l G b (setc y 8 (rdM (y 4) (y 8))) (lo := lo) (hi := hi) (show MG (y 4) (rdM (y 4) (y 8)) from h1.rd) h3 h4) mb_X6_number mv_X6_number wl_X6_192 f_X6 wm_obj dX6_perhaps_11 ?_
    refine jx_eq (ws' := wsM G b (setc y 8 (nuM (y 4) (rdM (y 4) (y 8)) lo hi))) (congrArg (wsM G b) (by first | rfl | (rw [setc_setc]; rfl) | exact setc_in _ _ _ _ (by decide) | exact setc_in2 _ _ _ _ _ (by decide) (by decide) | (rw [setc_in _ _ _ _ (by decide), setc_in _ _ _ _ (by decide)]; rfl) | (rw [setc_in _ _ _ _ (by decide), setc_setc]; rfl) | (simp only [setc_setc, setc_at]; done) | (simp only [setc_setc, setc_at]; rfl) | (funext d; simp only [setc_app]; (repeat' split) <;> first | rfl | omega))) ?_
    refine jx_st (st' := [vI ((rdM (y 4) (y 8)) 5)]) (by first | rfl | (simp only [setc_at]; done) | (simp only [setc_at]; rfl)) ?_
    refine jx_goto (tgt := 19) E dX6_perhaps_14 (by decide) ?_
    exact jx_iret E hr dX6_perhaps_19 (by unfold peV; rw [if_pos (by omega)]) (by unfold peM; rw [if_pos (by omega)])
set_option maxHeartbeats 4000000 in
theorem c_X6_fountainItem (l : Launch) (G : GT) (b : Nat → Nat) (y : MS) (h1 : MG (y 4) (y 8)) (h2 : 0 ≤ y 0 4 ∧ y 0 4 ≤ 8) : CtV l G yX6_fountainItem cX6_fountainItem 6 none 6 [.ref (b 0)] (wsM G b y) (wsM G b (setc (setc y 0 ((fiM (y 4) (y 0) (y 8)).1)) 8 ((fiM (y 4) (y 0) (y 8)).2))) := by
  obtain ⟨⟨hn, hp, hw⟩, h3s, h2s, h5s, h6s, h21⟩ := id h1
  obtain ⟨g0, g1, g2, g3, -⟩ := id (MG_fi h1)
  have hpi := paO_in (fiS2 (y 4) (y 8)) 8
  have g36 := g3.2.2.2.2.1
  refine CtV.of (by decide) (Nat.le_of_ble_eq_true rfl) ?_
  intro p e s m args below meth c A E hr
  refine jx_lv (lv' := [(0, .ref (b 0))]) [0] rfl ?_
  refine jx_aload_n E 0 dX6_fountainItem_0 rfl ?_
  refine jx_get E f_X6 7 (v := vI ((y 8) 2)) wm_obj (by decide) wf_X6_176 rfl dX6_fountainItem_1 ?_
  refine jx_istore_n E dX6_fountainItem_4 (by decide) [(1, vI ((y 8) 2)), (0, .ref (b 0))] rfl ?_
  refine jx_aload_n E 1 dX6_fountainItem_5 rfl ?_
  have JN22 : ∀ (u : Int), (u = if y 0 4 = 8 then 1 else 0) → JX p l e (rmL 6) s m args below meth c 6 G A 0 0 (QV below args s G A (wsM G b (setc (setc y 0 ((fiM (y 4) (y 0) (y 8)).1)) 8 ((fiM (y 4) (y 0) (y 8)).2)))) (wsM G b y) 22 [(1, vI ((y 8) 2)), (0, .ref (b 0))] [vI u, .ref (b 0)] := by
    intro u hu
    refine jx_put E f_X6 11 wm_obj (by decide) wf_X6_182 rfl (by first | rfl | exact narZ (by omega)) (by first | rfl | exact fitZ (by omega)) (Nat.le_of_ble_eq_true rfl) wq_obj11 dX6_fountainItem_22 ?_
    refine jx_aload_n E 1 dX6_fountainItem_25 rfl ?_
    refine jx_get E f_X6 11 (v := vI u) wm_obj (by decide) wf_X6_182 (by first | rfl | (simp only [setc_at, List.getElem?_cons_zero, List.getElem?_cons_succ]; done) | (simp [setc_at]; done)) dX6_fountainItem_26 ?_
    refine jx_if_eq (tgt := 33) E dX6_fountainItem_29 (by decide) (fun c1 => ?_) (fun c1 => ?_)
    · skip
      refine jx_aload_n E 1 dX6_fountainItem_33 rfl ?_
      refine jx_callVv E [] [] (c_X6_reads l G b (setc y 8 (updI (y 8) 6 u))  (show TG (y 4) (updI (y 8) 6 u) from h1.1)) mb_X6_reads mv_X6_reads wl_X6_186 f_X6 wm_obj dX6_fountainItem_34 ?_
      refine jx_eq (ws' := wsM G b (setc y 8 (rdM (y 4) (updI (y 8) 6 u)))) (congrArg (wsM G b) (by first | rfl | (rw [setc_setc]; rfl) | exact setc_in _ _ _ _ (by decide) | exact setc_in2 _ _ _ _ _ (by decide) (by decide) | (rw [setc_in _ _ _ _ (by decide), setc_in _ _ _ _ (by decide)]; rfl) | (rw [setc_in _ _ _ _ (by decide), setc_setc]; rfl) | (simp only [setc_setc, setc_at]; done) | (simp only [setc_setc, setc_at]; rfl) | (funext d; simp only [setc_app]; (repeat' split) <;> first | rfl | omega))) ?_
      refine jx_eq (ws' := wsM G b (setc y 8 (fiS0 (y 4) (y 8)))) (by rw [show u = 0 by omega]; rfl) ?_
      refine jx_aload_n E 1 dX6_fountainItem_37 rfl ?_
      refine jx_bipush E dX6_fountainItem_38 ?_
      refine jx_iconst E dX6_fountainItem_40 ?_
      refine jx_bipush E dX6_fountainItem_41 ?_
      refine jx_bipush E dX6_fountainItem_43 ?_
      refine jx_callVi E [vI 6, vI 1, vI 40, vI 10] [] (c_X6_perhaps l G b (setc y 8 (fiS0 (y 4) (y 8))) (wd := 6) (lo := 1) (hi := 40) (so := 10) (show MG (y 4) (fiS0 (y 4) (y 8)) from g0) (by omega) (by unfold inR; omega) (by unfold inR; omega)) mb_X6_perhaps mv_X6_perhaps wl_X6_195 f_X6 wm_obj dX6_fountainItem_45 ?_
      refine jx_eq (ws' := wsM G b (setc y 8 (peM (y 4) (fiS0 (y 4) (y 8)) 6 1 40))) (congrArg (wsM G b) (by first | rfl | (rw [setc_setc]; rfl) | exact setc_in _ _ _ _ (by decide) | exact setc_in2 _ _ _ _ _ (by decide) (by decide) | (rw [setc_in _ _ _ _ (by decide), setc_in _ _ _ _ (by decide)]; rfl) | (rw [setc_in _ _ _ _ (by decide), setc_setc]; rfl) | (simp only [setc_setc, setc_at]; done) | (simp only [setc_setc, setc_at]; rfl) | (funext d; simp only [setc_app]; (repeat' split) <;> first | rfl | omega))) ?_
      refine jx_st (st' := [vI (peV (y 4) (fiS0 (y 4) (y 8)) 6 10)]) (by first | rfl | (simp only [setc_at]; done) | (simp only [setc_at]; rfl)) ?_
      refine jx_eq (ws' := wsM G b (setc y 8 (fiS1 (y 4) (y 8)))) rfl ?_
      refine jx_istore_n E dX6_fountainItem_48 (by decide) [(2, vI (peV (y 4) (fiS0 (y 4) (y 8)) 6 10)), (1, vI ((y 8) 2)), (0, .ref (b 0))] rfl ?_
      refine jx_aload_n E 2 dX6_fountainItem_49 rfl ?_
      refine jx_bipush E dX6_fountainItem_50 ?_
      refine jx_iconst E dX6_fountainItem_52 ?_
      refine jx_bipush E dX6_fountainItem_53 ?_
      refine jx_bipush E dX6_fountainItem_55 ?_
      refine jx_callVi E [vI 7, vI 0, vI 99, vI 20] [] (c_X6_perhaps l G b (setc y 8 (fiS1 (y 4) (y 8))) (wd := 7) (lo := 0) (hi := 99) (so := 20) (show MG (y 4) (fiS1 (y 4) (y 8)) from g1) (by omega) (by unfold inR; omega) (by unfold inR; omega)) mb_X6_perhaps mv_X6_perhaps wl_X6_195 f_X6 wm_obj dX6_fountainItem_57 ?_
      refine jx_eq (ws' := wsM G b (setc y 8 (peM (y 4) (fiS1 (y 4) (y 8)) 7 0 99))) (congrArg (wsM G b) (by first | rfl | (rw [setc_setc]; rfl) | exact setc_in _ _ _ _ (by decide) | exact setc_in2 _ _ _ _ _ (by decide) (by decide) | (rw [setc_in _ _ _ _ (by decide), setc_in _ _ _ _ (by decide)]; rfl) | (rw [setc_in _ _ _ _ (by decide), setc_setc]; rfl) | (simp only [setc_setc, setc_at]; done) | (simp only [setc_setc, setc_at]; rfl) | (funext d; simp only [setc_app]; (repeat' split) <;> first | rfl | omega))) ?_
      refine jx_st (st' := [vI (peV (y 4) (fiS1 (y 4) (y 8)) 7 20)]) (by first | rfl | (simp only [setc_at]; done) | (simp only [setc_at]; rfl)) ?_
      refine jx_eq (ws' := wsM G b (setc y 8 (fiS2 (y 4) (y 8)))) rfl ?_
      refine jx_istore_n E dX6_fountainItem_60 (by decide) [(3, vI (peV (y 4) (fiS1 (y 4) (y 8)) 7 20)), (2, vI (peV (y 4) (fiS0 (y 4) (y 8)) 6 10)), (1, vI ((y 8) 2)), (0, .ref (b 0))] rfl ?_
      refine jx_aload_n E 3 dX6_fountainItem_61 rfl ?_
      refine jx_bipush E dX6_fountainItem_62 ?_
      have JN75 : ∀ (u2 : Int), (u2 = paO (fiS2 (y 4) (y 8)) 8) → JX p l e (rmL 6) s m args below meth c 6 G A 0 0 (QV below args s G A (wsM G b (setc (setc y 0 ((fiM (y 4) (y 0) (y 8)).1)) 8 ((fiM (y 4) (y 0) (y 8)).2)))) (wsM G b (setc y 8 (fiS3 (y 4) (y 8)))) 75 [(3, vI (peV (y 4) (fiS1 (y 4) (y 8)) 7 20)), (2, vI (peV (y 4) (fiS0 (y 4) (y 8)) 6 10)), (1, vI ((y 8) 2)), (0, .ref (b 0))] [vI u2] := by
        intro u2 hu2
        refine jx_istore E dX6_fountainItem_75 (by decide) [(4, vI u2), (3, vI (peV (y 4) (fiS1 (y 4) (y 8)) 7 20)), (2, vI (peV (y 4) (fiS0 (y 4) (y 8)) 6 10)), (1, vI ((y 8) 2)), (0, .ref (b 0))] rfl ?_
        refine jx_aload_n E 4 dX6_fountainItem_77 rfl ?_
        refine jx_get E f_X6 11 (v := vI ((fiS3 (y 4) (y 8)) 6)) wm_obj (by decide) wf_X6_182 (by first | rfl | (simp only [setc_at, List.getElem?_cons_zero, List.getElem?_cons_succ]; done) | (simp [setc_at]; done)) dX6_fountainItem_78 ?_
        refine jx_if_ne (tgt := 95) E dX6_fountainItem_81 (by decide) (fun c2 => ?_) (fun c2 => ?_)
        · skip
          exact jx_vret E hr dX6_fountainItem_95 (by unfold fiM; rw [if_neg (by omega)]; show _ = wsM G b (setc (setc y 0 (if fiS3 (y 4) (y 8) 6 = 0 then newP (y 0) (y 8 2) (peV (y 4) (fiS0 (y 4) (y 8)) 6 10) (paO (fiS2 (y 4) (y 8)) 8) (peV (y 4) (fiS1 (y 4) (y 8)) 7 20) else y 0)) 8 (fiS3 (y 4) (y 8))); rw [if_neg (by omega), setc_self])
        · skip
          refine jx_aload_n E 4 dX6_fountainItem_84 rfl ?_
          refine jx_iload_n E 3 dX6_fountainItem_85 rfl ?_
          refine jx_iload_n E 2 dX6_fountainItem_86 rfl ?_
          refine jx_iload_n E 1 dX6_fountainItem_87 rfl ?_
          refine jx_iload E 0 dX6_fountainItem_88 rfl ?_
          refine jx_callVi E [vI ((y 8) 2), vI (peV (y 4) (fiS0 (y 4) (y 8)) 6 10), vI (peV (y 4) (fiS1 (y 4) (y 8)) 7 20), vI u2] [] (c_X6_comesAs l G b (setc y 8 (fiS3 (y 4) (y 8))) (kd := (y 8) 2) (hg := peV (y 4) (fiS0 (y 4) (y 8)) 6 10) (lo := peV (y 4) (fiS1 (y 4) (y 8)) 7 20) (of := u2) (show 0 ≤ y 0 4 ∧ y 0 4 < 8 by omega)) mb_X6_comesAs mv_X6_comesAs wl_X6_91 f_X6 wm_obj dX6_fountainItem_90 ?_
          refine jx_st (st' := [vI ((y 0) 4)]) (by first | rfl | (simp only [setc_at]; done) | (simp only [setc_at]; rfl)) ?_
          refine jx_istore E dX6_fountainItem_93 (by decide) [(5, vI ((y 0) 4)), (4, vI u2), (3, vI (peV (y 4) (fiS1 (y 4) (y 8)) 7 20)), (2, vI (peV (y 4) (fiS0 (y 4) (y 8)) 6 10)), (1, vI ((y 8) 2)), (0, .ref (b 0))] rfl ?_
          exact jx_vret E hr dX6_fountainItem_95 (by unfold fiM; rw [if_neg (by omega)]; show _ = wsM G b (setc (setc y 0 (if fiS3 (y 4) (y 8) 6 = 0 then newP (y 0) (y 8 2) (peV (y 4) (fiS0 (y 4) (y 8)) 6 10) (paO (fiS2 (y 4) (y 8)) 8) (peV (y 4) (fiS1 (y 4) (y 8)) 7 20) else y 0)) 8 (fiS3 (y 4) (y 8))); rw [if_pos (by omega), ← hu2]; exact congrArg (wsM G b) (by first | rfl | (funext d; simp only [setc_app]; (repeat' split) <;> first | rfl | (exfalso; omega) | (rename_i z9; subst z9; rfl))))
      refine jx_callVi E [vI 8] [] (c_X6_passes l G b (setc y 8 (fiS2 (y 4) (y 8))) (wd := 8) (show MG (y 4) (fiS2 (y 4) (y 8)) from g2) (by omega)) mb_X6_passes mv_X6_passes wl_X6_189 f_X6 wm_obj dX6_fountainItem_64 ?_
      refine jx_eq (ws' := wsM G b (setc y 8 (paM (y 4) (fiS2 (y 4) (y 8)) 8))) (congrArg (wsM G b) (by first | rfl | (rw [setc_setc]; rfl) | exact setc_in _ _ _ _ (by decide) | exact setc_in2 _ _ _ _ _ (by decide) (by decide) | (rw [setc_in _ _ _ _ (by decide), setc_in _ _ _ _ (by decide)]; rfl) | (rw [setc_in _ _ _ _ (by decide), setc_setc]; rfl) | (simp only [setc_setc, setc_at]; done) | (simp only [setc_setc, setc_at]; rfl) | (funext d; simp only [setc_app]; (repeat' split) <;> first | rfl | omega))) ?_
      refine jx_st (st' := [vI (paO (fiS2 (y 4) (y 8)) 8)]) (by first | rfl | (simp only [setc_at]; done) | (simp only [setc_at]; rfl)) ?_
      refine jx_eq (ws' := wsM G b (setc y 8 (fiS3 (y 4) (y 8)))) rfl ?_
      refine jx_if_eq (tgt := 74) E dX6_fountainItem_67 (by decide) (fun c3 => ?_) (fun c3 => ?_)
      · skip
        refine jx_iconst E dX6_fountainItem_74 ?_
        exact JN75 _ (by omega)
      · skip
        refine jx_iconst E dX6_fountainItem_70 ?_
        refine jx_goto (tgt := 75) E dX6_fountainItem_71 (by decide) ?_
        exact JN75 _ (by omega)
    · skip
      exact jx_vret E hr dX6_fountainItem_32 (by unfold fiM; rw [if_pos (by omega), show u = 1 by omega, setc_self])
  refine jx_aload_n E 1 dX6_fountainItem_6 rfl ?_
  refine jx_get E f_X6 0 (v := .ref (b 1)) wm_obj (by decide) wf_X6_9 rfl dX6_fountainItem_7 ?_
  refine jx_iconst E dX6_fountainItem_10 ?_
  refine jx_iald E (v := (y 0) 4) wm_m (row0_at (by omega) (by omega)) (by omega) (by omega) (by decide) dX6_fountainItem_11 ?_
  refine jx_bipush E dX6_fountainItem_12 ?_
  refine jx_icmp_ne (tgt := 21) E dX6_fountainItem_14 (by decide) (fun c4 => ?_) (fun c4 => ?_)
  · skip
    refine jx_iconst E dX6_fountainItem_21 ?_
    exact JN22 _ (by omega)
  · skip
    refine jx_iconst E dX6_fountainItem_17 ?_
    refine jx_goto (tgt := 22) E dX6_fountainItem_18 (by decide) ?_
    exact JN22 _ (by omega)
set_option maxHeartbeats 4000000 in
theorem c_X6_rainItem (l : Launch) (G : GT) (b : Nat → Nat) (y : MS) (h1 : MG (y 4) (y 8)) : CtV l G yX6_rainItem cX6_rainItem 3 none 5 [.ref (b 0)] (wsM G b y) (wsM G b (setc (setc y 0 ((raM (y 4) (y 0) (y 8)).1)) 8 ((raM (y 4) (y 0) (y 8)).2))) := by
  obtain ⟨⟨hn, hp, hw⟩, h3s, h2s, h5s, h6s, h21⟩ := id h1
  have ha := h1.nu 0 7
  have hb := ha.1.nu 0 99
  have hb6 := hb.1.2.2.2.2.1
  refine CtV.of (by decide) (Nat.le_of_ble_eq_true rfl) ?_
  intro p e s m args below meth c A E hr
  refine jx_lv (lv' := [(0, .ref (b 0))]) [0] rfl ?_
  refine jx_aload_n E 0 dX6_rainItem_0 rfl ?_
  refine jx_iconst E dX6_rainItem_1 ?_
  refine jx_bipush E dX6_rainItem_2 ?_
  refine jx_callVi E [vI 0, vI 7] [] (c_X6_number l G b y (lo := 0) (hi := 7) h1 (by unfold inR; omega) (by unfold inR; omega)) mb_X6_number mv_X6_number wl_X6_192 f_X6 wm_obj dX6_rainItem_4 ?_
  refine jx_istore_n E dX6_rainItem_7 (by decide) [(1, vI ((y 8) 5)), (0, .ref (b 0))] rfl ?_
  refine jx_aload_n E 1 dX6_rainItem_8 rfl ?_
  refine jx_iconst E dX6_rainItem_9 ?_
  refine jx_bipush E dX6_rainItem_10 ?_
  refine jx_callVi E [vI 0, vI 99] [] (c_X6_number l G b (setc y 8 (nuM (y 4) (y 8) 0 7)) (lo := 0) (hi := 99) (show MG (y 4) (nuM (y 4) (y 8) 0 7) from ha.1) (by unfold inR; omega) (by unfold inR; omega)) mb_X6_number mv_X6_number wl_X6_192 f_X6 wm_obj dX6_rainItem_12 ?_
  refine jx_eq (ws' := wsM G b (setc y 8 (nuM (y 4) (nuM (y 4) (y 8) 0 7) 0 99))) (congrArg (wsM G b) (by first | rfl | (rw [setc_setc]; rfl) | exact setc_in _ _ _ _ (by decide) | exact setc_in2 _ _ _ _ _ (by decide) (by decide) | (rw [setc_in _ _ _ _ (by decide), setc_in _ _ _ _ (by decide)]; rfl) | (rw [setc_in _ _ _ _ (by decide), setc_setc]; rfl) | (simp only [setc_setc, setc_at]; done) | (simp only [setc_setc, setc_at]; rfl) | (funext d; simp only [setc_app]; (repeat' split) <;> first | rfl | omega))) ?_
  refine jx_st (st' := [vI ((nuM (y 4) (y 8) 0 7) 5)]) (by first | rfl | (simp only [setc_at]; done) | (simp only [setc_at]; rfl)) ?_
  refine jx_istore_n E dX6_rainItem_15 (by decide) [(2, vI ((nuM (y 4) (y 8) 0 7) 5)), (1, vI ((y 8) 5)), (0, .ref (b 0))] rfl ?_
  refine jx_aload_n E 2 dX6_rainItem_16 rfl ?_
  refine jx_get E f_X6 11 (v := vI ((nuM (y 4) (nuM (y 4) (y 8) 0 7) 0 99) 6)) wm_obj (by decide) wf_X6_182 (by first | rfl | (simp only [setc_at, List.getElem?_cons_zero, List.getElem?_cons_succ]; done) | (simp [setc_at]; done)) dX6_rainItem_17 ?_
  refine jx_if_ne (tgt := 32) E dX6_rainItem_20 (by decide) (fun c1 => ?_) (fun c1 => ?_)
  · skip
    exact jx_vret E hr dX6_rainItem_32 (by unfold raM; show _ = wsM G b (setc (setc y 0 (if nuM (y 4) (nuM (y 4) (y 8) 0 7) 0 99 6 = 0 then updI (y 0) (5 + y 8 5) (nuM (y 4) (y 8) 0 7 5) else y 0)) 8 (nuM (y 4) (nuM (y 4) (y 8) 0 7) 0 99)); rw [if_neg (by omega), setc_self])
  · skip
    have hq := ra_in h1 (by omega)
    refine jx_aload_n E 2 dX6_rainItem_23 rfl ?_
    refine jx_get E f_X6 0 (v := .ref (b 1)) wm_obj (by decide) wf_X6_9 rfl dX6_rainItem_24 ?_
    refine jx_iconst E dX6_rainItem_27 ?_
    refine jx_iload_n E 1 dX6_rainItem_28 rfl ?_
    refine jx_iadd E dX6_rainItem_29 ?_
    refine jx_iload_n E 0 dX6_rainItem_30 rfl ?_
    refine jx_iast E wm_m (wq_m (by omega) (by omega)) (by omega) (by omega) (by decide) dX6_rainItem_31 ?_
    exact jx_vret E hr dX6_rainItem_32 (by unfold raM; show _ = wsM G b (setc (setc y 0 (if nuM (y 4) (nuM (y 4) (y 8) 0 7) 0 99 6 = 0 then updI (y 0) (5 + y 8 5) (nuM (y 4) (y 8) 0 7 5) else y 0)) 8 (nuM (y 4) (nuM (y 4) (y 8) 0 7) 0 99)); rw [if_pos (by omega)]; exact congrArg (wsM G b) (by first | rfl | (funext d; simp only [setc_app]; (repeat' split) <;> first | rfl | (exfalso; omega) | (rename_i z9; subst z9; rfl))))
set_option maxHeartbeats 4000000 in
theorem c_X6_coldItem (l : Launch) (G : GT) (b : Nat → Nat) (y : MS) (h1 : MG (y 4) (y 8)) : CtV l G yX6_coldItem cX6_coldItem 3 none 5 [.ref (b 0)] (wsM G b y) (wsM G b (setc (setc y 0 ((coM (y 4) (y 0) (y 8)).1)) 8 ((coM (y 4) (y 0) (y 8)).2))) := by
  obtain ⟨⟨hn, hp, hw⟩, h3s, h2s, h5s, h6s, h21⟩ := id h1
  have ha := h1.rd.nu 0 7
  have ha6 := ha.1.2.2.2.2.1
  refine CtV.of (by decide) (Nat.le_of_ble_eq_true rfl) ?_
  intro p e s m args below meth c A E hr
  refine jx_lv (lv' := [(0, .ref (b 0))]) [0] rfl ?_
  have JN14 : ∀ (u : Int), (u = if y 8 2 = 10 then 1 else 0) → JX p l e (rmL 5) s m args below meth c 3 G A 0 0 (QV below args s G A (wsM G b (setc (setc y 0 ((coM (y 4) (y 0) (y 8)).1)) 8 ((coM (y 4) (y 0) (y 8)).2)))) (wsM G b y) 14 [(0, .ref (b 0))] [vI u] := by
    intro u hu
    refine jx_istore_n E dX6_coldItem_14 (by decide) [(1, vI u), (0, .ref (b 0))] rfl ?_
    refine jx_aload_n E 1 dX6_coldItem_15 rfl ?_
    refine jx_callVv E [] [] (c_X6_reads l G b y  h1.1) mb_X6_reads mv_X6_reads wl_X6_186 f_X6 wm_obj dX6_coldItem_16 ?_
    refine jx_aload_n E 1 dX6_coldItem_19 rfl ?_
    refine jx_iconst E dX6_coldItem_20 ?_
    refine jx_bipush E dX6_coldItem_21 ?_
    refine jx_callVi E [vI 0, vI 7] [] (c_X6_number l G b (setc y 8 (rdM (y 4) (y 8))) (lo := 0) (hi := 7) (show MG (y 4) (rdM (y 4) (y 8)) from h1.rd) (by unfold inR; omega) (by unfold inR; omega)) mb_X6_number mv_X6_number wl_X6_192 f_X6 wm_obj dX6_coldItem_23 ?_
    refine jx_eq (ws' := wsM G b (setc y 8 (nuM (y 4) (rdM (y 4) (y 8)) 0 7))) (congrArg (wsM G b) (by first | rfl | (rw [setc_setc]; rfl) | exact setc_in _ _ _ _ (by decide) | exact setc_in2 _ _ _ _ _ (by decide) (by decide) | (rw [setc_in _ _ _ _ (by decide), setc_in _ _ _ _ (by decide)]; rfl) | (rw [setc_in _ _ _ _ (by decide), setc_setc]; rfl) | (simp only [setc_setc, setc_at]; done) | (simp only [setc_setc, setc_at]; rfl) | (funext d; simp only [setc_app]; (repeat' split) <;> first | rfl | omega))) ?_
    refine jx_st (st' := [vI ((rdM (y 4) (y 8)) 5)]) (by first | rfl | (simp only [setc_at]; done) | (simp only [setc_at]; rfl)) ?_
    refine jx_istore_n E dX6_coldItem_26 (by decide) [(2, vI ((rdM (y 4) (y 8)) 5)), (1, vI u), (0, .ref (b 0))] rfl ?_
    refine jx_aload_n E 2 dX6_coldItem_27 rfl ?_
    refine jx_get E f_X6 11 (v := vI ((nuM (y 4) (rdM (y 4) (y 8)) 0 7) 6)) wm_obj (by decide) wf_X6_182 (by first | rfl | (simp only [setc_at, List.getElem?_cons_zero, List.getElem?_cons_succ]; done) | (simp [setc_at]; done)) dX6_coldItem_28 ?_
    refine jx_if_ne (tgt := 44) E dX6_coldItem_31 (by decide) (fun c1 => ?_) (fun c1 => ?_)
    · skip
      exact jx_vret E hr dX6_coldItem_44 (by unfold coM; show _ = wsM G b (setc (setc y 0 (if nuM (y 4) (rdM (y 4) (y 8)) 0 7 6 = 0 then updI (y 0) (13 + rdM (y 4) (y 8) 5) (if y 8 2 = 10 then 1 else 0) else y 0)) 8 (nuM (y 4) (rdM (y 4) (y 8)) 0 7)); rw [if_neg (by omega), setc_self])
    · skip
      have hq := ha.2.2.mp (by omega)
      have hq5 := hq.2.2
      refine jx_aload_n E 2 dX6_coldItem_34 rfl ?_
      refine jx_get E f_X6 0 (v := .ref (b 1)) wm_obj (by decide) wf_X6_9 rfl dX6_coldItem_35 ?_
      refine jx_bipush E dX6_coldItem_38 ?_
      refine jx_iload_n E 0 dX6_coldItem_40 rfl ?_
      refine jx_iadd E dX6_coldItem_41 ?_
      refine jx_iload_n E 1 dX6_coldItem_42 rfl ?_
      refine jx_iast E wm_m (wq_m (by omega) (by omega)) (by omega) (by omega) (by decide) dX6_coldItem_43 ?_
      exact jx_vret E hr dX6_coldItem_44 (by unfold coM; show _ = wsM G b (setc (setc y 0 (if nuM (y 4) (rdM (y 4) (y 8)) 0 7 6 = 0 then updI (y 0) (13 + rdM (y 4) (y 8) 5) (if y 8 2 = 10 then 1 else 0) else y 0)) 8 (nuM (y 4) (rdM (y 4) (y 8)) 0 7)); rw [if_pos (by omega), ← hu]; exact congrArg (wsM G b) (by first | rfl | (funext d; simp only [setc_app]; (repeat' split) <;> first | rfl | (exfalso; omega) | (rename_i z9; subst z9; rfl))))
  refine jx_aload_n E 0 dX6_coldItem_0 rfl ?_
  refine jx_get E f_X6 7 (v := vI ((y 8) 2)) wm_obj (by decide) wf_X6_176 rfl dX6_coldItem_1 ?_
  refine jx_bipush E dX6_coldItem_4 ?_
  refine jx_icmp_ne (tgt := 13) E dX6_coldItem_6 (by decide) (fun c2 => ?_) (fun c2 => ?_)
  · skip
    refine jx_iconst E dX6_coldItem_13 ?_
    exact JN14 _ (by omega)
  · skip
    refine jx_iconst E dX6_coldItem_9 ?_
    refine jx_goto (tgt := 14) E dX6_coldItem_10 (by decide) ?_
    exact JN14 _ (by omega)
set_option maxHeartbeats 4000000 in
theorem c_X6_item (l : Launch) (G : GT) (b : Nat → Nat) (y : MS) (h1 : MG (y 4) (y 8)) (h2 : 0 ≤ y 0 4 ∧ y 0 4 ≤ 8) : CtV l G yX6_item cX6_item 1 none 7 [.ref (b 0)] (wsM G b y) (wsM G b (setc (setc y 0 ((itM (y 4) (y 0) (y 8)).1)) 8 ((itM (y 4) (y 0) (y 8)).2))) := by
  obtain ⟨⟨hn, hp, hw⟩, h3s, h2s, h5s, h6s, h21⟩ := id h1
  have p9 := paO_in (y 8) 9
  have p12 := paO_in (y 8) 12
  refine CtV.of (by decide) (Nat.le_of_ble_eq_true rfl) ?_
  intro p e s m args below meth c A E hr
  refine jx_lv (lv' := [(0, .ref (b 0))]) [0] rfl ?_
  refine jx_aload_n E 0 dX6_item_0 rfl ?_
  refine jx_get E f_X6 7 (v := vI ((y 8) 2)) wm_obj (by decide) wf_X6_176 rfl dX6_item_1 ?_
  refine jx_iconst E dX6_item_4 ?_
  refine jx_icmp_gt (tgt := 15) E dX6_item_5 (by decide) (fun c1 => ?_) (fun c1 => ?_)
  · skip
    refine jx_aload_n E 0 dX6_item_15 rfl ?_
    refine jx_bipush E dX6_item_16 ?_
    refine jx_callVi E [vI 9] [] (c_X6_passes l G b y (wd := 9) h1 (by omega)) mb_X6_passes mv_X6_passes wl_X6_189 f_X6 wm_obj dX6_item_18 ?_
    refine jx_if_eq (tgt := 31) E dX6_item_21 (by decide) (fun c2 => ?_) (fun c2 => ?_)
    · skip
      refine jx_eq (ws' := wsM G b y) (congrArg (wsM G b) (by rw [pa_no (by omega), setc_self])) ?_
      refine jx_aload_n E 0 dX6_item_31 rfl ?_
      refine jx_get E f_X6 7 (v := vI ((y 8) 2)) wm_obj (by decide) wf_X6_176 rfl dX6_item_32 ?_
      refine jx_bipush E dX6_item_35 ?_
      refine jx_icmp_eq (tgt := 49) E dX6_item_37 (by decide) (fun c3 => ?_) (fun c3 => ?_)
      · skip
        refine jx_aload_n E 0 dX6_item_49 rfl ?_
        refine jx_callVv E [] [] (c_X6_coldItem l G b y  h1) mb_X6_coldItem mv_X6_coldItem wl_X6_204 f_X6 wm_obj dX6_item_50 ?_
        refine jx_eq (ws' := wsM G b (setc (setc y 0 ((coM (y 4) (y 0) (y 8)).1)) 8 ((coM (y 4) (y 0) (y 8)).2))) (congrArg (wsM G b) (by first | rfl | (rw [setc_setc]; rfl) | exact setc_in _ _ _ _ (by decide) | exact setc_in2 _ _ _ _ _ (by decide) (by decide) | (rw [setc_in _ _ _ _ (by decide), setc_in _ _ _ _ (by decide)]; rfl) | (rw [setc_in _ _ _ _ (by decide), setc_setc]; rfl) | (simp only [setc_setc, setc_at]; done) | (simp only [setc_setc, setc_at]; rfl) | (funext d; simp only [setc_app]; (repeat' split) <;> first | rfl | omega))) ?_
        refine jx_goto (tgt := 87) E dX6_item_53 (by decide) ?_
        exact jx_vret E hr dX6_item_87 (by unfold itM; rw [if_neg (by omega), if_neg (by omega), if_pos (by omega)]; first | done | (rw [setc_self]; done) | exact congrArg (wsM G b) (by first | rfl | (funext d; simp only [setc_app]; (repeat' split) <;> first | rfl | (exfalso; omega) | (rename_i z9; subst z9; rfl))))
      · skip
        refine jx_aload_n E 0 dX6_item_40 rfl ?_
        refine jx_get E f_X6 7 (v := vI ((y 8) 2)) wm_obj (by decide) wf_X6_176 rfl dX6_item_41 ?_
        refine jx_bipush E dX6_item_44 ?_
        refine jx_icmp_ne (tgt := 56) E dX6_item_46 (by decide) (fun c4 => ?_) (fun c4 => ?_)
        · skip
          refine jx_aload_n E 0 dX6_item_56 rfl ?_
          refine jx_bipush E dX6_item_57 ?_
          refine jx_callVi E [vI 12] [] (c_X6_passes l G b y (wd := 12) h1 (by omega)) mb_X6_passes mv_X6_passes wl_X6_189 f_X6 wm_obj dX6_item_59 ?_
          refine jx_if_eq (tgt := 82) E dX6_item_62 (by decide) (fun c5 => ?_) (fun c5 => ?_)
          · skip
            refine jx_eq (ws' := wsM G b y) (congrArg (wsM G b) (by rw [pa_no (by omega), setc_self])) ?_
            refine jx_aload_n E 0 dX6_item_82 rfl ?_
            refine jx_iconst E dX6_item_83 ?_
            refine jx_put E f_X6 11 wm_obj (by decide) wf_X6_182 rfl (by first | rfl | exact narZ (by omega)) (by first | rfl | exact fitZ (by omega)) (Nat.le_of_ble_eq_true rfl) wq_obj11 dX6_item_84 ?_
            exact jx_vret E hr dX6_item_87 (by unfold itM; rw [if_neg (by omega), if_neg (by omega), if_neg (by omega), if_neg (by omega)]; first | done | (rw [setc_self]; done) | exact congrArg (wsM G b) (by first | rfl | (funext d; simp only [setc_app]; (repeat' split) <;> first | rfl | (exfalso; omega) | (rename_i z9; subst z9; rfl))))
          · skip
            refine jx_eq (ws' := wsM G b (setc y 8 (rdM (y 4) (y 8)))) (congrArg (wsM G b) (by rw [pa_y (by omega)])) ?_
            refine jx_aload_n E 0 dX6_item_65 rfl ?_
            refine jx_get E f_X6 0 (v := .ref (b 1)) wm_obj (by decide) wf_X6_9 rfl dX6_item_66 ?_
            refine jx_iconst E dX6_item_69 ?_
            refine jx_aload_n E 0 dX6_item_70 rfl ?_
            refine jx_iconst E dX6_item_71 ?_
            refine jx_sipush E dX6_item_72 ?_
            refine jx_callVi E [vI 0, vI 9999] [vI 1, .ref (b 1)] (c_X6_number l G b (setc y 8 (rdM (y 4) (y 8))) (lo := 0) (hi := 9999) (show MG (y 4) (rdM (y 4) (y 8)) from h1.rd) (by unfold inR; omega) (by unfold inR; omega)) mb_X6_number mv_X6_number wl_X6_192 f_X6 wm_obj dX6_item_75 ?_
            refine jx_eq (ws' := wsM G b (setc y 8 (nuM (y 4) (rdM (y 4) (y 8)) 0 9999))) (congrArg (wsM G b) (by first | rfl | (rw [setc_setc]; rfl) | exact setc_in _ _ _ _ (by decide) | exact setc_in2 _ _ _ _ _ (by decide) (by decide) | (rw [setc_in _ _ _ _ (by decide), setc_in _ _ _ _ (by decide)]; rfl) | (rw [setc_in _ _ _ _ (by decide), setc_setc]; rfl) | (simp only [setc_setc, setc_at]; done) | (simp only [setc_setc, setc_at]; rfl) | (funext d; simp only [setc_app]; (repeat' split) <;> first | rfl | omega))) ?_
            refine jx_st (st' := [vI ((rdM (y 4) (y 8)) 5), vI 1, .ref (b 1)]) (by first | rfl | (simp only [setc_at]; done) | (simp only [setc_at]; rfl)) ?_
            refine jx_iast E wm_m (wq_m (by omega) (by omega)) (by omega) (by omega) (by decide) dX6_item_78 ?_
            refine jx_goto (tgt := 87) E dX6_item_79 (by decide) ?_
            exact jx_vret E hr dX6_item_87 (by unfold itM; rw [if_neg (by omega), if_neg (by omega), if_neg (by omega), if_pos (by omega)]; first | done | (rw [setc_self]; done) | exact congrArg (wsM G b) (by first | rfl | (funext d; simp only [setc_app]; (repeat' split) <;> first | rfl | (exfalso; omega) | (rename_i z9; subst z9; rfl))))
        · skip
          refine jx_aload_n E 0 dX6_item_49 rfl ?_
          refine jx_callVv E [] [] (c_X6_coldItem l G b y  h1) mb_X6_coldItem mv_X6_coldItem wl_X6_204 f_X6 wm_obj dX6_item_50 ?_
          refine jx_eq (ws' := wsM G b (setc (setc y 0 ((coM (y 4) (y 0) (y 8)).1)) 8 ((coM (y 4) (y 0) (y 8)).2))) (congrArg (wsM G b) (by first | rfl | (rw [setc_setc]; rfl) | exact setc_in _ _ _ _ (by decide) | exact setc_in2 _ _ _ _ _ (by decide) (by decide) | (rw [setc_in _ _ _ _ (by decide), setc_in _ _ _ _ (by decide)]; rfl) | (rw [setc_in _ _ _ _ (by decide), setc_setc]; rfl) | (simp only [setc_setc, setc_at]; done) | (simp only [setc_setc, setc_at]; rfl) | (funext d; simp only [setc_app]; (repeat' split) <;> first | rfl | omega))) ?_
          refine jx_goto (tgt := 87) E dX6_item_53 (by decide) ?_
          exact jx_vret E hr dX6_item_87 (by unfold itM; rw [if_neg (by omega), if_neg (by omega), if_pos (by omega)]; first | done | (rw [setc_self]; done) | exact congrArg (wsM G b) (by first | rfl | (funext d; simp only [setc_app]; (repeat' split) <;> first | rfl | (exfalso; omega) | (rename_i z9; subst z9; rfl))))
    · skip
      refine jx_eq (ws' := wsM G b (setc y 8 (rdM (y 4) (y 8)))) (congrArg (wsM G b) (by rw [pa_y (by omega)])) ?_
      refine jx_aload_n E 0 dX6_item_24 rfl ?_
      refine jx_callVv E [] [] (c_X6_rainItem l G b (setc y 8 (rdM (y 4) (y 8)))  (show MG (y 4) (rdM (y 4) (y 8)) from h1.rd)) mb_X6_rainItem mv_X6_rainItem wl_X6_201 f_X6 wm_obj dX6_item_25 ?_
      refine jx_eq (ws' := wsM G b (setc (setc y 8 ((raM (y 4) (y 0) (rdM (y 4) (y 8))).2)) 0 ((raM (y 4) (y 0) (rdM (y 4) (y 8))).1))) (congrArg (wsM G b) (by first | rfl | (rw [setc_setc]; rfl) | exact setc_in _ _ _ _ (by decide) | exact setc_in2 _ _ _ _ _ (by decide) (by decide) | (rw [setc_in _ _ _ _ (by decide), setc_in _ _ _ _ (by decide)]; rfl) | (rw [setc_in _ _ _ _ (by decide), setc_setc]; rfl) | (simp only [setc_setc, setc_at]; done) | (simp only [setc_setc, setc_at]; rfl) | (funext d; simp only [setc_app]; (repeat' split) <;> first | rfl | omega))) ?_
      refine jx_goto (tgt := 87) E dX6_item_28 (by decide) ?_
      exact jx_vret E hr dX6_item_87 (by unfold itM; rw [if_neg (by omega), if_pos (by omega)]; first | done | (rw [setc_self]; done) | exact congrArg (wsM G b) (by first | rfl | (funext d; simp only [setc_app]; (repeat' split) <;> first | rfl | (exfalso; omega) | (rename_i z9; subst z9; rfl))))
  · skip
    refine jx_aload_n E 0 dX6_item_8 rfl ?_
    refine jx_callVv E [] [] (c_X6_fountainItem l G b y  h1 h2) mb_X6_fountainItem mv_X6_fountainItem wl_X6_198 f_X6 wm_obj dX6_item_9 ?_
    refine jx_eq (ws' := wsM G b (setc (setc y 0 ((fiM (y 4) (y 0) (y 8)).1)) 8 ((fiM (y 4) (y 0) (y 8)).2))) (congrArg (wsM G b) (by first | rfl | (rw [setc_setc]; rfl) | exact setc_in _ _ _ _ (by decide) | exact setc_in2 _ _ _ _ _ (by decide) (by decide) | (rw [setc_in _ _ _ _ (by decide), setc_in _ _ _ _ (by decide)]; rfl) | (rw [setc_in _ _ _ _ (by decide), setc_setc]; rfl) | (simp only [setc_setc, setc_at]; done) | (simp only [setc_setc, setc_at]; rfl) | (funext d; simp only [setc_app]; (repeat' split) <;> first | rfl | omega))) ?_
    refine jx_goto (tgt := 87) E dX6_item_12 (by decide) ?_
    exact jx_vret E hr dX6_item_87 (by unfold itM; rw [if_pos (by omega)]; first | done | (rw [setc_self]; done) | exact congrArg (wsM G b) (by first | rfl | (funext d; simp only [setc_app]; (repeat' split) <;> first | rfl | (exfalso; omega) | (rename_i z9; subst z9; rfl))))
theorem rd_1 (w s : Int → Int) : rdM w s 1 = s 1 := rfl
theorem nu_1 (w s : Int → Int) (lo hi : Int) : nuM w s lo hi 1 = s 1 := by unfold nuM; split <;> rfl
theorem pa_1 (w s : Int → Int) (i : Int) : paM w s i 1 = s 1 := by unfold paM; split <;> rfl
theorem pe_1 (w s : Int → Int) (i lo hi : Int) : peM w s i lo hi 1 = s 1 := by
  unfold peM
  split
  · rw [nu_1]; rfl
  · rfl
theorem fi_1 (w s : Int → Int) : fiS3 w s 1 = s 1 := by
  unfold fiS3; rw [pa_1]
  unfold fiS2; rw [pe_1]
  unfold fiS1; rw [pe_1]
  rfl
theorem it_1 (w t s : Int → Int) : (itM w t (rdM w s)).2 1 = s 1 := by
  unfold itM
  split
  · unfold fiM
    split
    · rfl
    · exact fi_1 w (rdM w s)
  split
  · show nuM w (nuM w _ 0 7) 0 99 1 = _; rw [nu_1, nu_1]; rfl
  split
  · show nuM w _ 0 7 1 = _; rw [nu_1]; rfl
  split
  · show nuM w _ 0 9999 1 = _; rw [nu_1]; rfl
  · rfl
set_option maxHeartbeats 4000000 in
theorem c_X6_town (l : Launch) (G : GT) (b : Nat → Nat) (y : MS) (h1 : TG (y 4) (updI (y 8) 4 0)) (h2 : 0 ≤ y 0 4 ∧ y 0 4 ≤ 8) : CtI l G yX6_town cX6_town 2 (some .int) 8 [.ref (b 0)] (wsM G b y) (if (twM (y 4) (y 0) (y 8)).2.2 6 = 0 ∧ (twM (y 4) (y 0) (y 8)).2.2 2 = 22 then (twM (y 4) (y 0) (y 8)).1 else -1 - (twM (y 4) (y 0) (y 8)).2.2 3) (wsM G b (if (twM (y 4) (y 0) (y 8)).2.2 6 = 0 ∧ (twM (y 4) (y 0) (y 8)).2.2 2 = 22 then setc (setc (setc y 2 (y 0)) 0 (twM (y 4) (y 0) (y 8)).2.1) 8 (updI (updI (twM (y 4) (y 0) (y 8)).2.2 6 0) 1 0) else setc (setc (setc y 2 (y 0)) 0 (y 0)) 8 (updI (updI (twM (y 4) (y 0) (y 8)).2.2 6 1) 1 0))) := by
  have hr0 := (MG_rd (s := updI (updI (y 8) 4 0) 6 0) h1 (Or.inl rfl)).1
  have ho0 := MO_it (t := y 0) h2 hr0
  refine CtI.of (by decide) (Nat.le_of_ble_eq_true rfl) ?_
  intro p e s m args below meth c A E hr
  refine jx_lv (lv' := [(0, .ref (b 0))]) [0] rfl ?_
  refine jx_aload_n E 0 dX6_town_0 rfl ?_
  refine jx_callVv E [] [] (c_X6_thinks l G b y  ) mb_X6_thinks mv_X6_thinks wl_X6_134 f_X6 wm_obj dX6_town_1 ?_
  refine jx_eq (ws' := wsM G b (setc (setc y 2 (y 0)) 0 (y 0))) (congrArg (wsM G b) (by first | rfl | (rw [setc_setc]; rfl) | exact setc_in _ _ _ _ (by decide) | exact setc_in2 _ _ _ _ _ (by decide) (by decide) | (rw [setc_in _ _ _ _ (by decide), setc_in _ _ _ _ (by decide)]; rfl) | (rw [setc_in _ _ _ _ (by decide), setc_setc]; rfl) | (simp only [setc_setc, setc_at]; done) | (simp only [setc_setc, setc_at]; rfl) | (funext d; simp only [setc_app]; (repeat' split) <;> first | rfl | omega))) ?_
  refine jx_aload_n E 0 dX6_town_4 rfl ?_
  refine jx_iconst E dX6_town_5 ?_
  refine jx_put E f_X6 9 wm_obj (by decide) wf_X6_163 rfl rfl rfl (Nat.le_of_ble_eq_true rfl) wq_obj9 dX6_town_6 ?_
  refine jx_aload_n E 0 dX6_town_9 rfl ?_
  refine jx_iconst E dX6_town_10 ?_
  refine jx_put E f_X6 11 wm_obj (by decide) wf_X6_182 rfl (by first | rfl | exact narZ (by omega)) (by first | rfl | exact fitZ (by omega)) (Nat.le_of_ble_eq_true rfl) wq_obj11 dX6_town_11 ?_
  refine jx_eq (ws' := wsM G b (setc (setc (setc y 2 (y 0)) 0 (y 0)) 8 (updI (updI (y 8) 4 0) 6 0))) (congrArg (wsM G b) (by first | rfl | (rw [setc_setc]; rfl) | exact setc_in _ _ _ _ (by decide) | exact setc_in2 _ _ _ _ _ (by decide) (by decide) | (rw [setc_in _ _ _ _ (by decide), setc_in _ _ _ _ (by decide)]; rfl) | (rw [setc_in _ _ _ _ (by decide), setc_setc]; rfl) | (simp only [setc_setc, setc_at]; done) | (simp only [setc_setc, setc_at]; rfl) | (funext d; simp only [setc_app]; (repeat' split) <;> first | rfl | omega))) ?_
  refine jx_aload_n E 0 dX6_town_14 rfl ?_
  refine jx_callVv E [] [] (c_X6_reads l G b (setc (setc (setc y 2 (y 0)) 0 (y 0)) 8 (updI (updI (y 8) 4 0) 6 0))  (show TG (y 4) (updI (updI (y 8) 4 0) 6 0) from h1)) mb_X6_reads mv_X6_reads wl_X6_186 f_X6 wm_obj dX6_town_15 ?_
  refine jx_eq (ws' := wsM G b (setc (setc (setc y 2 (y 0)) 0 (y 0)) 8 (rdM (y 4) (updI (updI (y 8) 4 0) 6 0)))) (congrArg (wsM G b) (by first | rfl | (rw [setc_setc]; rfl) | exact setc_in _ _ _ _ (by decide) | exact setc_in2 _ _ _ _ _ (by decide) (by decide) | (rw [setc_in _ _ _ _ (by decide), setc_in _ _ _ _ (by decide)]; rfl) | (rw [setc_in _ _ _ _ (by decide), setc_setc]; rfl) | (simp only [setc_setc, setc_at]; done) | (simp only [setc_setc, setc_at]; rfl) | (funext d; simp only [setc_app]; (repeat' split) <;> first | rfl | omega))) ?_
  refine jx_aload_n E 0 dX6_town_18 rfl ?_
  refine jx_callVv E [] [] (c_X6_item l G b (setc (setc (setc y 2 (y 0)) 0 (y 0)) 8 (rdM (y 4) (updI (updI (y 8) 4 0) 6 0)))  (show MG (y 4) (rdM (y 4) (updI (updI (y 8) 4 0) 6 0)) from hr0) h2) mb_X6_item mv_X6_item wl_X6_207 f_X6 wm_obj dX6_town_19 ?_
  refine jx_eq (ws' := wsM G b (setc (setc (setc y 2 (y 0)) 0 ((itM (y 4) (y 0) (rdM (y 4) (updI (updI (y 8) 4 0) 6 0))).1)) 8 ((itM (y 4) (y 0) (rdM (y 4) (updI (updI (y 8) 4 0) 6 0))).2))) (congrArg (wsM G b) (by first | rfl | (rw [setc_setc]; rfl) | exact setc_in _ _ _ _ (by decide) | exact setc_in2 _ _ _ _ _ (by decide) (by decide) | (rw [setc_in _ _ _ _ (by decide), setc_in _ _ _ _ (by decide)]; rfl) | (rw [setc_in _ _ _ _ (by decide), setc_setc]; rfl) | (simp only [setc_setc, setc_at]; done) | (simp only [setc_setc, setc_at]; rfl) | (funext d; simp only [setc_app]; (repeat' split) <;> first | rfl | omega))) ?_
  refine jx_iconst E dX6_town_22 ?_
  refine jx_istore_n E dX6_town_23 (by decide) [(1, vI 1), (0, .ref (b 0))] rfl ?_
  have LP24 : ∀ (n2 : Nat) (fu : Nat) (ki : Int) (T : Int → Int) (R : Int → Int), (fu < n2) → (1 ≤ ki ∧ ki + (fu : Int) ≤ 122) → (0 ≤ T 4 ∧ T 4 ≤ 8) → (MG (y 4) R) → (R 1 - R 3 < fu) → (twF (y 4) fu ki T R = twM (y 4) (y 0) (y 8)) → JX p l e (rmL 8) s m args below meth c 2 G A 0 0 (QI below args s G A ((if (twM (y 4) (y 0) (y 8)).2.2 6 = 0 ∧ (twM (y 4) (y 0) (y 8)).2.2 2 = 22 then (twM (y 4) (y 0) (y 8)).1 else -1 - (twM (y 4) (y 0) (y 8)).2.2 3)) (wsM G b (if (twM (y 4) (y 0) (y 8)).2.2 6 = 0 ∧ (twM (y 4) (y 0) (y 8)).2.2 2 = 22 then setc (setc (setc y 2 (y 0)) 0 (twM (y 4) (y 0) (y 8)).2.1) 8 (updI (updI (twM (y 4) (y 0) (y 8)).2.2 6 0) 1 0) else setc (setc (setc y 2 (y 0)) 0 (y 0)) 8 (updI (updI (twM (y 4) (y 0) (y 8)).2.2 6 1) 1 0)))) (wsM G b (setc (setc (setc y 2 (y 0)) 0 T) 8 R)) 24 [(1, vI ki), (0, .ref (b 0))] [] := by
    intro n2
    induction n2 with
    | zero => intro fu ki T R q1 q2 q3 q4 q5 q6; exfalso; omega
    | succ n2 ih =>
      intro fu ki T R q1 q2 q3 q4 q5 q6
      have hpi := paO_in R 21
      obtain ⟨⟨k1, k2, -⟩, k3, k4, k5, k6, k7⟩ := id q4
      have hmo := MO_it (t := T) q3 q4.rd
      have hlv := (MG_rd q4.1 q4.2.2.2.2.1).2
      refine jx_aload_n E 1 dX6_town_24 rfl ?_
      refine jx_bipush E dX6_town_25 ?_
      refine jx_callVi E [vI 21] [] (c_X6_passes l G b (setc (setc (setc y 2 (y 0)) 0 T) 8 R) (wd := 21) q4 (by omega)) mb_X6_passes mv_X6_passes wl_X6_189 f_X6 wm_obj dX6_town_27 ?_
      refine jx_eq (ws' := wsM G b (setc (setc (setc y 2 (y 0)) 0 T) 8 (paM (y 4) R 21))) (congrArg (wsM G b) (by first | rfl | (rw [setc_setc]; rfl) | exact setc_in _ _ _ _ (by decide) | exact setc_in2 _ _ _ _ _ (by decide) (by decide) | (rw [setc_in _ _ _ _ (by decide), setc_in _ _ _ _ (by decide)]; rfl) | (rw [setc_in _ _ _ _ (by decide), setc_setc]; rfl) | (simp only [setc_setc, setc_at]; done) | (simp only [setc_setc, setc_at]; rfl) | (funext d; simp only [setc_app]; (repeat' split) <;> first | rfl | omega))) ?_
      refine jx_st (st' := [vI (paO R 21)]) (by first | rfl | (simp only [setc_at]; done) | (simp only [setc_at]; rfl)) ?_
      refine jx_if_eq (tgt := 43) E dX6_town_30 (by decide) (fun c1 => ?_) (fun c1 => ?_)
      · skip
        have hres : twM (y 4) (y 0) (y 8) = (ki, T, R) := by
          rw [← q6]
          obtain ⟨f', rfl⟩ : ∃ f', fu = f' + 1 := ⟨fu - 1, by omega⟩
          simp only [twF]
          rw [if_neg (by omega)]
        refine jx_eq (ws' := wsM G b (setc (setc (setc y 2 (y 0)) 0 T) 8 R)) (congrArg (wsM G b) (by rw [pa_no (by omega)])) ?_
        refine jx_aload_n E 1 dX6_town_43 rfl ?_
        have JN65 : ∀ (u : Int), (u = if R 6 = 0 ∧ R 2 = 22 then 0 else 1) → JX p l e (rmL 8) s m args below meth c 2 G A 0 0 (QI below args s G A ((if (twM (y 4) (y 0) (y 8)).2.2 6 = 0 ∧ (twM (y 4) (y 0) (y 8)).2.2 2 = 22 then (twM (y 4) (y 0) (y 8)).1 else -1 - (twM (y 4) (y 0) (y 8)).2.2 3)) (wsM G b (if (twM (y 4) (y 0) (y 8)).2.2 6 = 0 ∧ (twM (y 4) (y 0) (y 8)).2.2 2 = 22 then setc (setc (setc y 2 (y 0)) 0 (twM (y 4) (y 0) (y 8)).2.1) 8 (updI (updI (twM (y 4) (y 0) (y 8)).2.2 6 0) 1 0) else setc (setc (setc y 2 (y 0)) 0 (y 0)) 8 (updI (updI (twM (y 4) (y 0) (y 8)).2.2 6 1) 1 0)))) (wsM G b (setc (setc (setc y 2 (y 0)) 0 T) 8 R)) 65 [(1, vI ki), (0, .ref (b 0))] [vI u, .ref (b 0)] := by
          intro u hu
          refine jx_put E f_X6 11 wm_obj (by decide) wf_X6_182 rfl (by first | rfl | exact narZ (by omega)) (by first | rfl | exact fitZ (by omega)) (Nat.le_of_ble_eq_true rfl) wq_obj11 dX6_town_65 ?_
          refine jx_eq (ws' := wsM G b (setc (setc (setc y 2 (y 0)) 0 T) 8 (updI R 6 u))) (congrArg (wsM G b) (by first | rfl | (rw [setc_setc]; rfl) | exact setc_in _ _ _ _ (by decide) | exact setc_in2 _ _ _ _ _ (by decide) (by decide) | (rw [setc_in _ _ _ _ (by decide), setc_in _ _ _ _ (by decide)]; rfl) | (rw [setc_in _ _ _ _ (by decide), setc_setc]; rfl) | (simp only [setc_setc, setc_at]; done) | (simp only [setc_setc, setc_at]; rfl) | (funext d; simp only [setc_app]; (repeat' split) <;> first | rfl | omega))) ?_
          refine jx_aload_n E 1 dX6_town_68 rfl ?_
          refine jx_iconst E dX6_town_69 ?_
          refine jx_put E f_X6 6 wm_obj (by decide) wf_X6_153 rfl rfl rfl (Nat.le_of_ble_eq_true rfl) wq_obj6 dX6_town_70 ?_
          refine jx_eq (ws' := wsM G b (setc (setc (setc y 2 (y 0)) 0 T) 8 (updI (updI R 6 u) 1 0))) (congrArg (wsM G b) (by first | rfl | (rw [setc_setc]; rfl) | exact setc_in _ _ _ _ (by decide) | exact setc_in2 _ _ _ _ _ (by decide) (by decide) | (rw [setc_in _ _ _ _ (by decide), setc_in _ _ _ _ (by decide)]; rfl) | (rw [setc_in _ _ _ _ (by decide), setc_setc]; rfl) | (simp only [setc_setc, setc_at]; done) | (simp only [setc_setc, setc_at]; rfl) | (funext d; simp only [setc_app]; (repeat' split) <;> first | rfl | omega))) ?_
          refine jx_aload_n E 1 dX6_town_73 rfl ?_
          refine jx_get E f_X6 11 (v := vI u) wm_obj (by decide) wf_X6_182 (by first | rfl | (simp only [setc_at, List.getElem?_cons_zero, List.getElem?_cons_succ]; done) | (simp [setc_at]; done)) dX6_town_74 ?_
          refine jx_if_ne (tgt := 82) E dX6_town_77 (by decide) (fun c2 => ?_) (fun c2 => ?_)
          · skip
            refine jx_aload_n E 1 dX6_town_82 rfl ?_
            refine jx_callVv E [] [] (c_X6_putsBack l G b (setc (setc (setc y 2 (y 0)) 0 T) 8 (updI (updI R 6 u) 1 0))  ) mb_X6_putsBack mv_X6_putsBack wl_X6_137 f_X6 wm_obj dX6_town_83 ?_
            refine jx_eq (ws' := wsM G b (setc (setc (setc y 2 (y 0)) 0 (y 0)) 8 (updI (updI R 6 u) 1 0))) (congrArg (wsM G b) (by first | rfl | (rw [setc_setc]; rfl) | exact setc_in _ _ _ _ (by decide) | exact setc_in2 _ _ _ _ _ (by decide) (by decide) | (rw [setc_in _ _ _ _ (by decide), setc_in _ _ _ _ (by decide)]; rfl) | (rw [setc_in _ _ _ _ (by decide), setc_setc]; rfl) | (simp only [setc_setc, setc_at]; done) | (simp only [setc_setc, setc_at]; rfl) | (funext d; simp only [setc_app]; (repeat' split) <;> first | rfl | omega))) ?_
            refine jx_iconst E dX6_town_86 ?_
            refine jx_aload_n E 1 dX6_town_87 rfl ?_
            refine jx_get E f_X6 8 (v := vI (R 3)) wm_obj (by decide) wf_X6_160 (by first | rfl | (simp only [setc_at, List.getElem?_cons_zero, List.getElem?_cons_succ]; done) | (simp [setc_at]; done)) dX6_town_88 ?_
            refine jx_isub E dX6_town_91 ?_
            exact jx_iret E hr dX6_town_92 (by rw [hres]; exact (if_neg (show ¬ (R 6 = 0 ∧ R 2 = 22) by omega)).symm) (by rw [hres, if_neg (show ¬ (R 6 = 0 ∧ R 2 = 22) by omega), show u = 1 by omega])
          · skip
            refine jx_iload_n E 0 dX6_town_80 rfl ?_
            exact jx_iret E hr dX6_town_81 (by rw [hres]; exact (if_pos (show R 6 = 0 ∧ R 2 = 22 by omega)).symm) (by rw [hres, if_pos (show R 6 = 0 ∧ R 2 = 22 by omega), show u = 0 by omega])
        refine jx_aload_n E 1 dX6_town_44 rfl ?_
        refine jx_get E f_X6 11 (v := vI (R 6)) wm_obj (by decide) wf_X6_182 (by first | rfl | (simp only [setc_at, List.getElem?_cons_zero, List.getElem?_cons_succ]; done) | (simp [setc_at]; done)) dX6_town_45 ?_
        refine jx_if_ne (tgt := 60) E dX6_town_48 (by decide) (fun c3 => ?_) (fun c3 => ?_)
        · skip
          refine jx_iconst E dX6_town_60 ?_
          refine jx_goto (tgt := 65) E dX6_town_61 (by decide) ?_
          exact JN65 _ (by omega)
        · skip
          refine jx_aload_n E 1 dX6_town_51 rfl ?_
          refine jx_get E f_X6 7 (v := vI (R 2)) wm_obj (by decide) wf_X6_176 (by first | rfl | (simp only [setc_at, List.getElem?_cons_zero, List.getElem?_cons_succ]; done) | (simp [setc_at]; done)) dX6_town_52 ?_
          refine jx_bipush E dX6_town_55 ?_
          refine jx_icmp_eq (tgt := 64) E dX6_town_57 (by decide) (fun c4 => ?_) (fun c4 => ?_)
          · skip
            refine jx_iconst E dX6_town_64 ?_
            exact JN65 _ (by omega)
          · skip
            refine jx_iconst E dX6_town_60 ?_
            refine jx_goto (tgt := 65) E dX6_town_61 (by decide) ?_
            exact JN65 _ (by omega)
      · skip
        refine jx_eq (ws' := wsM G b (setc (setc (setc y 2 (y 0)) 0 T) 8 (rdM (y 4) R))) (congrArg (wsM G b) (by rw [pa_y (by omega)])) ?_
        refine jx_aload_n E 1 dX6_town_33 rfl ?_
        refine jx_callVv E [] [] (c_X6_item l G b (setc (setc (setc y 2 (y 0)) 0 T) 8 (rdM (y 4) R))  (show MG (y 4) (rdM (y 4) R) from q4.rd) q3) mb_X6_item mv_X6_item wl_X6_207 f_X6 wm_obj dX6_town_34 ?_
        refine jx_eq (ws' := wsM G b (setc (setc (setc y 2 (y 0)) 0 ((itM (y 4) T (rdM (y 4) R)).1)) 8 ((itM (y 4) T (rdM (y 4) R)).2))) (congrArg (wsM G b) (by first | rfl | (rw [setc_setc]; rfl) | exact setc_in _ _ _ _ (by decide) | exact setc_in2 _ _ _ _ _ (by decide) (by decide) | (rw [setc_in _ _ _ _ (by decide), setc_in _ _ _ _ (by decide)]; rfl) | (rw [setc_in _ _ _ _ (by decide), setc_setc]; rfl) | (simp only [setc_setc, setc_at]; done) | (simp only [setc_setc, setc_at]; rfl) | (funext d; simp only [setc_app]; (repeat' split) <;> first | rfl | omega))) ?_
        refine jx_iinc E 0 dX6_town_37 rfl (by decide) [(1, vI (ki + 1)), (0, .ref (b 0))] rfl ?_
        refine jx_goto (tgt := 24) E dX6_town_40 (by decide) ?_
        have h21 : R 2 = 21 := by (have := (show paO R 21 = 1 by omega)); unfold paO at this; omega
        obtain ⟨f', rfl⟩ : ∃ f', fu = f' + 1 := ⟨fu - 1, by omega⟩
        have hm3 := hmo.2.2
        have e1 : (itM (y 4) T (rdM (y 4) R)).2 1 = R 1 := it_1 _ _ _
        exact ih f' (ki + 1) _ _ (by omega) (by omega) hmo.1 hmo.2.1 (by omega) (by rw [← q6]; simp only [twF]; rw [if_pos (by omega)])
  exact LP24 122 121 1 (itM (y 4) (y 0) (rdM (y 4) (updI (updI (y 8) 4 0) 6 0))).1 (itM (y 4) (y 0) (rdM (y 4) (updI (updI (y 8) 4 0) 6 0))).2 (by omega) (by omega) ho0.1 ho0.2.1 (by obtain ⟨⟨k1, k2, -⟩, k3, -⟩ := id ho0.2.1; omega) rfl
