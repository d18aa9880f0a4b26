/-! 33.x3: laid by the walker out of specX3 -/
def addP (t : Int → Int) (k : Int) : Int → Int := updI (beginP t (t 4) k) 4 (t 4 + 1)
theorem begin_4 (t : Int → Int) {i : Int} (k : Int) (h : 0 ≤ i) : beginP t i k 4 = t 4 := by
  simp only [beginP]
  rw [updI_ne _ _ (by omega), updI_ne _ _ (by omega), updI_ne _ _ (by omega), updI_ne _ _ (by omega), updI_ne _ _ (by omega)]
set_option maxHeartbeats 4000000 in
theorem c_X4_addOne_0 (l : Launch) (G : GT) (a : Nat → Nat) (x : MS) {kd : Int} (h1 : 0 ≤ x 0 4 ∧ x 0 4 ≤ 8) : CtI l G yX4_addOne cX4_addOne 2 (some .int) 2 [.ref (a 1), vI kd] (wsX G a x) (if 8 ≤ (x 0) 4 then -1 else (x 0) 4) (wsX G a (setc x 0 (if 8 ≤ (x 0) 4 then (x 0) else addP (x 0) kd))) := by
  have hb4 := begin_4 (x 0) (i := x 0 4) kd h1.1
  refine CtI.of (by decide) (Nat.le_of_ble_eq_true rfl) ?_
  intro p e s m args below meth c A E hr
  refine jx_lv (lv' := [(0, .ref (a 1)), (1, vI kd)]) [0, 1] rfl ?_
  refine jx_aload_n E 0 dX4_addOne_0 rfl ?_
  refine jx_get E f_X4 7 (v := vI ((x 0) 4)) (wx_town (j := 0) (by decide)) (by decide) wf_X4_37 rfl dX4_addOne_1 ?_
  refine jx_bipush E dX4_addOne_4 ?_
  refine jx_icmp_lt (tgt := 11) E dX4_addOne_6 (by decide) (fun c1 => ?_) (fun c1 => ?_)
  · skip
    refine jx_aload_n E 0 dX4_addOne_11 rfl ?_
    refine jx_get E f_X4 6 (v := .ref (a 4)) (wx_town (j := 0) (by decide)) (by decide) wf_X4_33 rfl dX4_addOne_12 ?_
    refine jx_aload_n E 0 dX4_addOne_15 rfl ?_
    refine jx_get E f_X4 7 (v := vI ((x 0) 4)) (wx_town (j := 0) (by decide)) (by decide) wf_X4_37 rfl dX4_addOne_16 ?_
    refine jx_aald E 2 (y := a (5 + 12 * 0 + ((x 0) 4).toNat)) (wx_row (j := 0) (by decide)) rfl rfl (by omega) (by omega) (by decide) dX4_addOne_19 ?_
    refine jx_iload_n E 1 dX4_addOne_20 rfl ?_
    refine jx_callVv E [vI kd] [] (c_X0_begin_0 l G a x (kd := kd) (i := (x 0) 4) (by omega)) mb_X0_begin mv_X0_begin wl_X4_51 f_X0 (wx_fou (j := 0) (by decide) (by omega) (by omega)) dX4_addOne_21 ?_
    refine jx_aload_n E 0 dX4_addOne_24 rfl ?_
    refine jx_dup E dX4_addOne_25 ?_
    refine jx_get E f_X4 7 (v := vI ((beginP (x 0) ((x 0) 4) kd) 4)) (wx_town (j := 0) (by decide)) (by decide) wf_X4_37 (by first | rfl | (simp only [setc_at, List.getElem?_cons_zero, List.getElem?_cons_succ]; done) | (simp [setc_at]; done)) dX4_addOne_26 ?_
    refine jx_iconst E dX4_addOne_29 ?_
    refine jx_iadd E dX4_addOne_30 ?_
    refine jx_put E f_X4 7 (wx_town (j := 0) (by decide)) (by decide) wf_X4_37 rfl rfl rfl (Nat.le_of_ble_eq_true rfl) (wp_town7 (j := 0) (by decide)) dX4_addOne_31 ?_
    refine jx_eq (ws' := wsX G a (setc x 0 (updI (beginP (x 0) ((x 0) 4) kd) 4 (((beginP (x 0) ((x 0) 4) kd) 4) + 1)))) (congrArg (wsX G a) (by first | rfl | (rw [setc_setc]; rfl) | exact setc_in _ _ _ _ (by decide) | exact setc_in2 _ _ _ _ _ (by decide) (by decide) | (simp only [setc_setc, setc_at]; done) | (simp only [setc_setc, setc_at]; rfl) | (funext d; simp only [setc_app]; (repeat' split) <;> first | rfl | omega))) ?_
    refine jx_aload_n E 0 dX4_addOne_34 rfl ?_
    refine jx_get E f_X4 7 (v := vI ((updI (beginP (x 0) ((x 0) 4) kd) 4 (((beginP (x 0) ((x 0) 4) kd) 4) + 1)) 4)) (wx_town (j := 0) (by decide)) (by decide) wf_X4_37 (by first | rfl | (simp only [setc_at, List.getElem?_cons_zero, List.getElem?_cons_succ]; done) | (simp [setc_at]; done)) dX4_addOne_35 ?_
    refine jx_iconst E dX4_addOne_38 ?_
    refine jx_isub E dX4_addOne_39 ?_
    exact jx_iret E hr dX4_addOne_40 (by rw [updI_at]; omega) (by rw [if_neg (by omega), hb4]; rfl)
  · skip
    refine jx_iconst E dX4_addOne_9 ?_
    exact jx_iret E hr dX4_addOne_10 (by omega) (by rw [if_pos (by omega), setc_self])
set_option maxHeartbeats 4000000 in
theorem c_X4_addOne_1 (l : Launch) (G : GT) (a : Nat → Nat) (x : MS) {kd : Int} (h1 : 0 ≤ x 1 4 ∧ x 1 4 ≤ 8) : CtI l G yX4_addOne cX4_addOne 2 (some .int) 2 [.ref (a 13), vI kd] (wsX G a x) (if 8 ≤ (x 1) 4 then -1 else (x 1) 4) (wsX G a (setc x 1 (if 8 ≤ (x 1) 4 then (x 1) else addP (x 1) kd))) := by
  have hb4 := begin_4 (x 1) (i := x 1 4) kd h1.1
  refine CtI.of (by decide) (Nat.le_of_ble_eq_true rfl) ?_
  intro p e s m args below meth c A E hr
  refine jx_lv (lv' := [(0, .ref (a 13)), (1, vI kd)]) [0, 1] rfl ?_
  refine jx_aload_n E 0 dX4_addOne_0 rfl ?_
  refine jx_get E f_X4 7 (v := vI ((x 1) 4)) (wx_town (j := 1) (by decide)) (by decide) wf_X4_37 rfl dX4_addOne_1 ?_
  refine jx_bipush E dX4_addOne_4 ?_
  refine jx_icmp_lt (tgt := 11) E dX4_addOne_6 (by decide) (fun c1 => ?_) (fun c1 => ?_)
  · skip
    refine jx_aload_n E 0 dX4_addOne_11 rfl ?_
    refine jx_get E f_X4 6 (v := .ref (a 16)) (wx_town (j := 1) (by decide)) (by decide) wf_X4_33 rfl dX4_addOne_12 ?_
    refine jx_aload_n E 0 dX4_addOne_15 rfl ?_
    refine jx_get E f_X4 7 (v := vI ((x 1) 4)) (wx_town (j := 1) (by decide)) (by decide) wf_X4_37 rfl dX4_addOne_16 ?_
    refine jx_aald E 2 (y := a (5 + 12 * 1 + ((x 1) 4).toNat)) (wx_row (j := 1) (by decide)) rfl rfl (by omega) (by omega) (by decide) dX4_addOne_19 ?_
    refine jx_iload_n E 1 dX4_addOne_20 rfl ?_
    refine jx_callVv E [vI kd] [] (c_X0_begin_1 l G a x (kd := kd) (i := (x 1) 4) (by omega)) mb_X0_begin mv_X0_begin wl_X4_51 f_X0 (wx_fou (j := 1) (by decide) (by omega) (by omega)) dX4_addOne_21 ?_
    refine jx_aload_n E 0 dX4_addOne_24 rfl ?_
    refine jx_dup E dX4_addOne_25 ?_
    refine jx_get E f_X4 7 (v := vI ((beginP (x 1) ((x 1) 4) kd) 4)) (wx_town (j := 1) (by decide)) (by decide) wf_X4_37 (by first | rfl | (simp only [setc_at, List.getElem?_cons_zero, List.getElem?_cons_succ]; done) | (simp [setc_at]; done)) dX4_addOne_26 ?_
    refine jx_iconst E dX4_addOne_29 ?_
    refine jx_iadd E dX4_addOne_30 ?_
    refine jx_put E f_X4 7 (wx_town (j := 1) (by decide)) (by decide) wf_X4_37 rfl rfl rfl (Nat.le_of_ble_eq_true rfl) (wp_town7 (j := 1) (by decide)) dX4_addOne_31 ?_
    refine jx_eq (ws' := wsX G a (setc x 1 (updI (beginP (x 1) ((x 1) 4) kd) 4 (((beginP (x 1) ((x 1) 4) kd) 4) + 1)))) (congrArg (wsX G a) (by first | rfl | (rw [setc_setc]; rfl) | exact setc_in _ _ _ _ (by decide) | exact setc_in2 _ _ _ _ _ (by decide) (by decide) | (simp only [setc_setc, setc_at]; done) | (simp only [setc_setc, setc_at]; rfl) | (funext d; simp only [setc_app]; (repeat' split) <;> first | rfl | omega))) ?_
    refine jx_aload_n E 0 dX4_addOne_34 rfl ?_
    refine jx_get E f_X4 7 (v := vI ((updI (beginP (x 1) ((x 1) 4) kd) 4 (((beginP (x 1) ((x 1) 4) kd) 4) + 1)) 4)) (wx_town (j := 1) (by decide)) (by decide) wf_X4_37 (by first | rfl | (simp only [setc_at, List.getElem?_cons_zero, List.getElem?_cons_succ]; done) | (simp [setc_at]; done)) dX4_addOne_35 ?_
    refine jx_iconst E dX4_addOne_38 ?_
    refine jx_isub E dX4_addOne_39 ?_
    exact jx_iret E hr dX4_addOne_40 (by rw [updI_at]; omega) (by rw [if_neg (by omega), hb4]; rfl)
  · skip
    refine jx_iconst E dX4_addOne_9 ?_
    exact jx_iret E hr dX4_addOne_10 (by omega) (by rw [if_pos (by omega), setc_self])
set_option maxHeartbeats 4000000 in
theorem c_X4_noise_0 (l : Launch) (G : GT) (a : Nat → Nat) (x : MS) (h1 : VV (x 0)) : CtI l G yX4_noise cX4_noise 3 (some .int) 3 [.ref (a 1)] (wsX G a x) (noiseP (x 0)) (wsX G a x) := by
  have hF := h1.2.2.2.2.2.2.2
  have h4 := h1.2.2.2.2.1
  obtain ⟨hD, hC⟩ := VV_use h1
  refine CtI.of (by decide) (Nat.le_of_ble_eq_true rfl) ?_
  intro p e s m args below meth c A E hr
  refine jx_lv (lv' := [(0, .ref (a 1))]) [0] rfl ?_
  refine jx_iconst E dX4_noise_0 ?_
  refine jx_istore_n E dX4_noise_1 (by decide) [(1, vI 0), (0, .ref (a 1))] rfl ?_
  refine jx_iconst E dX4_noise_2 ?_
  refine jx_istore_n E dX4_noise_3 (by decide) [(2, vI 0), (1, vI 0), (0, .ref (a 1))] rfl ?_
  have LP4 : ∀ (n2 : Nat) (k : Nat), ((k : Int) ≤ x 0 4) → (x 0 4 - (k : Int) < n2) → JX p l e (rmL 3) s m args below meth c 3 G A 0 0 (QI below args s G A (noiseP (x 0)) (wsX G a x)) (wsX G a x) 4 [(2, vI (k : Int)), (1, vI (sumP (heardP (x 0)) k)), (0, .ref (a 1))] [] := by
    intro n2
    induction n2 with
    | zero => intro k q1 q2; exfalso; omega
    | succ n2 ih =>
      intro k q1 q2
      refine jx_iload_n E 0 dX4_noise_4 rfl ?_
      refine jx_aload_n E 2 dX4_noise_5 rfl ?_
      refine jx_get E f_X4 7 (v := vI ((x 0) 4)) (wx_town (j := 0) (by decide)) (by decide) wf_X4_37 rfl dX4_noise_6 ?_
      refine jx_icmp_ge (tgt := 30) E dX4_noise_9 (by decide) (fun c1 => ?_) (fun c1 => ?_)
      · skip
        refine jx_iload_n E 1 dX4_noise_30 rfl ?_
        exact jx_iret E hr dX4_noise_31 (by rw [show k = (x 0 4).toNat by omega]; rfl) (by first | rfl | (congr 1; done))
      · skip
        refine jx_iload_n E 1 dX4_noise_12 rfl ?_
        refine jx_aload_n E 2 dX4_noise_13 rfl ?_
        refine jx_get E f_X4 6 (v := .ref (a 4)) (wx_town (j := 0) (by decide)) (by decide) wf_X4_33 rfl dX4_noise_14 ?_
        refine jx_iload_n E 0 dX4_noise_17 rfl ?_
        refine jx_aald E 2 (y := a (5 + 12 * 0 + (k : Int).toNat)) (wx_row (j := 0) (by decide)) rfl rfl (by omega) (by omega) (by decide) dX4_noise_18 ?_
        refine jx_callVi E [] [vI (sumP (heardP (x 0)) k)] (c_X0_heard_0 l G a x (i := (k : Int)) (by omega) (hF _ (by omega) (by omega))) mb_X0_heard mv_X0_heard wl_X4_68 f_X0 (wx_fou (j := 0) (by decide) (by omega) (by omega)) dX4_noise_19 ?_
        refine jx_iadd E dX4_noise_22 ?_
        refine jx_istore_n E dX4_noise_23 (by decide) [(1, vI ((sumP (heardP (x 0)) k) + (heardP (x 0) (k : Int)))), (2, vI (k : Int)), (0, .ref (a 1))] rfl ?_
        refine jx_iinc E 1 dX4_noise_24 rfl (by decide) [(2, vI ((k : Int) + 1)), (1, vI ((sumP (heardP (x 0)) k) + (heardP (x 0) (k : Int)))), (0, .ref (a 1))] rfl ?_
        refine jx_goto (tgt := 4) E dX4_noise_27 (by decide) ?_
        exact ih (k + 1) (by omega) (by omega)
  exact LP4 9 0 (by omega) (by omega)
set_option maxHeartbeats 4000000 in
theorem c_X4_noise_1 (l : Launch) (G : GT) (a : Nat → Nat) (x : MS) (h1 : VV (x 1)) : CtI l G yX4_noise cX4_noise 3 (some .int) 3 [.ref (a 13)] (wsX G a x) (noiseP (x 1)) (wsX G a x) := by
  have hF := h1.2.2.2.2.2.2.2
  have h4 := h1.2.2.2.2.1
  obtain ⟨hD, hC⟩ := VV_use h1
  refine CtI.of (by decide) (Nat.le_of_ble_eq_true rfl) ?_
  intro p e s m args below meth c A E hr
  refine jx_lv (lv' := [(0, .ref (a 13))]) [0] rfl ?_
  refine jx_iconst E dX4_noise_0 ?_
  refine jx_istore_n E dX4_noise_1 (by decide) [(1, vI 0), (0, .ref (a 13))] rfl ?_
  refine jx_iconst E dX4_noise_2 ?_
  refine jx_istore_n E dX4_noise_3 (by decide) [(2, vI 0), (1, vI 0), (0, .ref (a 13))] rfl ?_
  have LP4 : ∀ (n2 : Nat) (k : Nat), ((k : Int) ≤ x 1 4) → (x 1 4 - (k : Int) < n2) → JX p l e (rmL 3) s m args below meth c 3 G A 0 0 (QI below args s G A (noiseP (x 1)) (wsX G a x)) (wsX G a x) 4 [(2, vI (k : Int)), (1, vI (sumP (heardP (x 1)) k)), (0, .ref (a 13))] [] := by
    intro n2
    induction n2 with
    | zero => intro k q1 q2; exfalso; omega
    | succ n2 ih =>
      intro k q1 q2
      refine jx_iload_n E 0 dX4_noise_4 rfl ?_
      refine jx_aload_n E 2 dX4_noise_5 rfl ?_
      refine jx_get E f_X4 7 (v := vI ((x 1) 4)) (wx_town (j := 1) (by decide)) (by decide) wf_X4_37 rfl dX4_noise_6 ?_
      refine jx_icmp_ge (tgt := 30) E dX4_noise_9 (by decide) (fun c1 => ?_) (fun c1 => ?_)
      · skip
        refine jx_iload_n E 1 dX4_noise_30 rfl ?_
        exact jx_iret E hr dX4_noise_31 (by rw [show k = (x 1 4).toNat by omega]; rfl) (by first | rfl | (congr 1; done))
      · skip
        refine jx_iload_n E 1 dX4_noise_12 rfl ?_
        refine jx_aload_n E 2 dX4_noise_13 rfl ?_
        refine jx_get E f_X4 6 (v := .ref (a 16)) (wx_town (j := 1) (by decide)) (by decide) wf_X4_33 rfl dX4_noise_14 ?_
        refine jx_iload_n E 0 dX4_noise_17 rfl ?_
        refine jx_aald E 2 (y := a (5 + 12 * 1 + (k : Int).toNat)) (wx_row (j := 1) (by decide)) rfl rfl (by omega) (by omega) (by decide) dX4_noise_18 ?_
        refine jx_callVi E [] [vI (sumP (heardP (x 1)) k)] (c_X0_heard_1 l G a x (i := (k : Int)) (by omega) (hF _ (by omega) (by omega))) mb_X0_heard mv_X0_heard wl_X4_68 f_X0 (wx_fou (j := 1) (by decide) (by omega) (by omega)) dX4_noise_19 ?_
        refine jx_iadd E dX4_noise_22 ?_
        refine jx_istore_n E dX4_noise_23 (by decide) [(1, vI ((sumP (heardP (x 1)) k) + (heardP (x 1) (k : Int)))), (2, vI (k : Int)), (0, .ref (a 13))] rfl ?_
        refine jx_iinc E 1 dX4_noise_24 rfl (by decide) [(2, vI ((k : Int) + 1)), (1, vI ((sumP (heardP (x 1)) k) + (heardP (x 1) (k : Int)))), (0, .ref (a 13))] rfl ?_
        refine jx_goto (tgt := 4) E dX4_noise_27 (by decide) ?_
        exact ih (k + 1) (by omega) (by omega)
  exact LP4 9 0 (by omega) (by omega)
set_option maxHeartbeats 4000000 in
theorem c_X4_usesTogether_0 (l : Launch) (G : GT) (a : Nat → Nat) (x : MS) (h1 : VV (x 0)) : CtI l G yX4_usesTogether cX4_usesTogether 4 (some .int) 4 [.ref (a 1)] (wsX G a x) (allUseP (x 0)) (wsX G a x) := by
  have hF := h1.2.2.2.2.2.2.2
  have h4 := h1.2.2.2.2.1
  obtain ⟨hD, hC⟩ := VV_use h1
  have hc := cold_in (x 0)
  refine CtI.of (by decide) (Nat.le_of_ble_eq_true rfl) ?_
  intro p e s m args below meth c A E hr
  refine jx_lv (lv' := [(0, .ref (a 1))]) [0] rfl ?_
  refine jx_aload_n E 0 dX4_usesTogether_0 rfl ?_
  refine jx_callVi E [] [] (c_X4_isCold_0 l G a x  hD hC) mb_X4_isCold mv_X4_isCold wl_X4_71 f_X4 (wx_town (j := 0) (by decide)) dX4_usesTogether_1 ?_
  refine jx_istore_n E dX4_usesTogether_4 (by decide) [(1, vI (coldP (x 0))), (0, .ref (a 1))] rfl ?_
  refine jx_iconst E dX4_usesTogether_5 ?_
  refine jx_istore_n E dX4_usesTogether_6 (by decide) [(2, vI 0), (1, vI (coldP (x 0))), (0, .ref (a 1))] rfl ?_
  refine jx_iconst E dX4_usesTogether_7 ?_
  refine jx_istore_n E dX4_usesTogether_8 (by decide) [(3, vI 0), (2, vI 0), (1, vI (coldP (x 0))), (0, .ref (a 1))] rfl ?_
  have LP9 : ∀ (n2 : Nat) (k : Nat), ((k : Int) ≤ x 0 4) → (x 0 4 - (k : Int) < n2) → JX p l e (rmL 4) s m args below meth c 4 G A 0 0 (QI below args s G A (allUseP (x 0)) (wsX G a x)) (wsX G a x) 9 [(3, vI (k : Int)), (2, vI (sumP (fun i => usesP (x 0) i (coldP (x 0))) k)), (1, vI (coldP (x 0))), (0, .ref (a 1))] [] := by
    intro n2
    induction n2 with
    | zero => intro k q1 q2; exfalso; omega
    | succ n2 ih =>
      intro k q1 q2
      refine jx_iload_n E 0 dX4_usesTogether_9 rfl ?_
      refine jx_aload_n E 3 dX4_usesTogether_10 rfl ?_
      refine jx_get E f_X4 7 (v := vI ((x 0) 4)) (wx_town (j := 0) (by decide)) (by decide) wf_X4_37 rfl dX4_usesTogether_11 ?_
      refine jx_icmp_ge (tgt := 36) E dX4_usesTogether_14 (by decide) (fun c1 => ?_) (fun c1 => ?_)
      · skip
        refine jx_iload_n E 1 dX4_usesTogether_36 rfl ?_
        exact jx_iret E hr dX4_usesTogether_37 (by rw [show k = (x 0 4).toNat by omega]; rfl) (by first | rfl | (congr 1; done))
      · skip
        refine jx_iload_n E 1 dX4_usesTogether_17 rfl ?_
        refine jx_aload_n E 3 dX4_usesTogether_18 rfl ?_
        refine jx_get E f_X4 6 (v := .ref (a 4)) (wx_town (j := 0) (by decide)) (by decide) wf_X4_33 rfl dX4_usesTogether_19 ?_
        refine jx_iload_n E 0 dX4_usesTogether_22 rfl ?_
        refine jx_aald E 2 (y := a (5 + 12 * 0 + (k : Int).toNat)) (wx_row (j := 0) (by decide)) rfl rfl (by omega) (by omega) (by decide) dX4_usesTogether_23 ?_
        refine jx_iload_n E 2 dX4_usesTogether_24 rfl ?_
        refine jx_callVi E [vI (coldP (x 0))] [vI (sumP (fun i => usesP (x 0) i (coldP (x 0))) k)] (c_X0_uses_0 l G a x (cd := coldP (x 0)) (i := (k : Int)) (by omega) (hF _ (by omega) (by omega)) (by omega)) mb_X0_uses mv_X0_uses wl_X4_75 f_X0 (wx_fou (j := 0) (by decide) (by omega) (by omega)) dX4_usesTogether_25 ?_
        refine jx_iadd E dX4_usesTogether_28 ?_
        refine jx_istore_n E dX4_usesTogether_29 (by decide) [(2, vI ((sumP (fun i => usesP (x 0) i (coldP (x 0))) k) + (usesP (x 0) (k : Int) (coldP (x 0))))), (3, vI (k : Int)), (1, vI (coldP (x 0))), (0, .ref (a 1))] rfl ?_
        refine jx_iinc E 1 dX4_usesTogether_30 rfl (by decide) [(3, vI ((k : Int) + 1)), (2, vI ((sumP (fun i => usesP (x 0) i (coldP (x 0))) k) + (usesP (x 0) (k : Int) (coldP (x 0))))), (1, vI (coldP (x 0))), (0, .ref (a 1))] rfl ?_
        refine jx_goto (tgt := 9) E dX4_usesTogether_33 (by decide) ?_
        exact ih (k + 1) (by omega) (by omega)
  exact LP9 9 0 (by omega) (by omega)
set_option maxHeartbeats 4000000 in
theorem c_X4_usesTogether_1 (l : Launch) (G : GT) (a : Nat → Nat) (x : MS) (h1 : VV (x 1)) : CtI l G yX4_usesTogether cX4_usesTogether 4 (some .int) 4 [.ref (a 13)] (wsX G a x) (allUseP (x 1)) (wsX G a x) := by
  have hF := h1.2.2.2.2.2.2.2
  have h4 := h1.2.2.2.2.1
  obtain ⟨hD, hC⟩ := VV_use h1
  have hc := cold_in (x 1)
  refine CtI.of (by decide) (Nat.le_of_ble_eq_true rfl) ?_
  intro p e s m args below meth c A E hr
  refine jx_lv (lv' := [(0, .ref (a 13))]) [0] rfl ?_
  refine jx_aload_n E 0 dX4_usesTogether_0 rfl ?_
  refine jx_callVi E [] [] (c_X4_isCold_1 l G a x  hD hC) mb_X4_isCold mv_X4_isCold wl_X4_71 f_X4 (wx_town (j := 1) (by decide)) dX4_usesTogether_1 ?_
  refine jx_istore_n E dX4_usesTogether_4 (by decide) [(1, vI (coldP (x 1))), (0, .ref (a 13))] rfl ?_
  refine jx_iconst E dX4_usesTogether_5 ?_
  refine jx_istore_n E dX4_usesTogether_6 (by decide) [(2, vI 0), (1, vI (coldP (x 1))), (0, .ref (a 13))] rfl ?_
  refine jx_iconst E dX4_usesTogether_7 ?_
  refine jx_istore_n E dX4_usesTogether_8 (by decide) [(3, vI 0), (2, vI 0), (1, vI (coldP (x 1))), (0, .ref (a 13))] rfl ?_
  have LP9 : ∀ (n2 : Nat) (k : Nat), ((k : Int) ≤ x 1 4) → (x 1 4 - (k : Int) < n2) → JX p l e (rmL 4) s m args below meth c 4 G A 0 0 (QI below args s G A (allUseP (x 1)) (wsX G a x)) (wsX G a x) 9 [(3, vI (k : Int)), (2, vI (sumP (fun i => usesP (x 1) i (coldP (x 1))) k)), (1, vI (coldP (x 1))), (0, .ref (a 13))] [] := by
    intro n2
    induction n2 with
    | zero => intro k q1 q2; exfalso; omega
    | succ n2 ih =>
      intro k q1 q2
      refine jx_iload_n E 0 dX4_usesTogether_9 rfl ?_
      refine jx_aload_n E 3 dX4_usesTogether_10 rfl ?_
      refine jx_get E f_X4 7 (v := vI ((x 1) 4)) (wx_town (j := 1) (by decide)) (by decide) wf_X4_37 rfl dX4_usesTogether_11 ?_
      refine jx_icmp_ge (tgt := 36) E dX4_usesTogether_14 (by decide) (fun c1 => ?_) (fun c1 => ?_)
      · skip
        refine jx_iload_n E 1 dX4_usesTogether_36 rfl ?_
        exact jx_iret E hr dX4_usesTogether_37 (by rw [show k = (x 1 4).toNat by omega]; rfl) (by first | rfl | (congr 1; done))
      · skip
        refine jx_iload_n E 1 dX4_usesTogether_17 rfl ?_
        refine jx_aload_n E 3 dX4_usesTogether_18 rfl ?_
        refine jx_get E f_X4 6 (v := .ref (a 16)) (wx_town (j := 1) (by decide)) (by decide) wf_X4_33 rfl dX4_usesTogether_19 ?_
        refine jx_iload_n E 0 dX4_usesTogether_22 rfl ?_
        refine jx_aald E 2 (y := a (5 + 12 * 1 + (k : Int).toNat)) (wx_row (j := 1) (by decide)) rfl rfl (by omega) (by omega) (by decide) dX4_usesTogether_23 ?_
        refine jx_iload_n E 2 dX4_usesTogether_24 rfl ?_
        refine jx_callVi E [vI (coldP (x 1))] [vI (sumP (fun i => usesP (x 1) i (coldP (x 1))) k)] (c_X0_uses_1 l G a x (cd := coldP (x 1)) (i := (k : Int)) (by omega) (hF _ (by omega) (by omega)) (by omega)) mb_X0_uses mv_X0_uses wl_X4_75 f_X0 (wx_fou (j := 1) (by decide) (by omega) (by omega)) dX4_usesTogether_25 ?_
        refine jx_iadd E dX4_usesTogether_28 ?_
        refine jx_istore_n E dX4_usesTogether_29 (by decide) [(2, vI ((sumP (fun i => usesP (x 1) i (coldP (x 1))) k) + (usesP (x 1) (k : Int) (coldP (x 1))))), (3, vI (k : Int)), (1, vI (coldP (x 1))), (0, .ref (a 13))] rfl ?_
        refine jx_iinc E 1 dX4_usesTogether_30 rfl (by decide) [(3, vI ((k : Int) + 1)), (2, vI ((sumP (fun i => usesP (x 1) i (coldP (x 1))) k) + (usesP (x 1) (k : Int) (coldP (x 1))))), (1, vI (coldP (x 1))), (0, .ref (a 13))] rfl ?_
        refine jx_goto (tgt := 9) E dX4_usesTogether_33 (by decide) ?_
        exact ih (k + 1) (by omega) (by omega)
  exact LP9 9 0 (by omega) (by omega)
set_option maxHeartbeats 4000000 in
theorem c_X4_stoopedTogether_0 (l : Launch) (G : GT) (a : Nat → Nat) (x : MS) (h1 : VV (x 0)) : CtI l G yX4_stoopedTogether cX4_stoopedTogether 3 (some .int) 1 [.ref (a 1)] (wsX G a x) (stoopedP (x 0)) (wsX G a x) := by
  have hF := h1.2.2.2.2.2.2.2
  have h4 := h1.2.2.2.2.1
  obtain ⟨hD, hC⟩ := VV_use h1
  refine CtI.of (by decide) (Nat.le_of_ble_eq_true rfl) ?_
  intro p e s m args below meth c A E hr
  refine jx_lv (lv' := [(0, .ref (a 1))]) [0] rfl ?_
  refine jx_iconst E dX4_stoopedTogether_0 ?_
  refine jx_istore_n E dX4_stoopedTogether_1 (by decide) [(1, vI 0), (0, .ref (a 1))] rfl ?_
  refine jx_iconst E dX4_stoopedTogether_2 ?_
  refine jx_istore_n E dX4_stoopedTogether_3 (by decide) [(2, vI 0), (1, vI 0), (0, .ref (a 1))] rfl ?_
  have LP4 : ∀ (n2 : Nat) (k : Nat), ((k : Int) ≤ x 0 4) → (x 0 4 - (k : Int) < n2) → JX p l e (rmL 1) s m args below meth c 3 G A 0 0 (QI below args s G A (stoopedP (x 0)) (wsX G a x)) (wsX G a x) 4 [(2, vI (k : Int)), (1, vI (sumP (fun i => x 0 (21 + 5 * i + 4)) k)), (0, .ref (a 1))] [] := by
    intro n2
    induction n2 with
    | zero => intro k q1 q2; exfalso; omega
    | succ n2 ih =>
      intro k q1 q2
      refine jx_iload_n E 0 dX4_stoopedTogether_4 rfl ?_
      refine jx_aload_n E 2 dX4_stoopedTogether_5 rfl ?_
      refine jx_get E f_X4 7 (v := vI ((x 0) 4)) (wx_town (j := 0) (by decide)) (by decide) wf_X4_37 rfl dX4_stoopedTogether_6 ?_
      refine jx_icmp_ge (tgt := 30) E dX4_stoopedTogether_9 (by decide) (fun c1 => ?_) (fun c1 => ?_)
      · skip
        refine jx_iload_n E 1 dX4_stoopedTogether_30 rfl ?_
        exact jx_iret E hr dX4_stoopedTogether_31 (by rw [show k = (x 0 4).toNat by omega]; rfl) (by first | rfl | (congr 1; done))
      · skip
        refine jx_iload_n E 1 dX4_stoopedTogether_12 rfl ?_
        refine jx_aload_n E 2 dX4_stoopedTogether_13 rfl ?_
        refine jx_get E f_X4 6 (v := .ref (a 4)) (wx_town (j := 0) (by decide)) (by decide) wf_X4_33 rfl dX4_stoopedTogether_14 ?_
        refine jx_iload_n E 0 dX4_stoopedTogether_17 rfl ?_
        refine jx_aald E 2 (y := a (5 + 12 * 0 + (k : Int).toNat)) (wx_row (j := 0) (by decide)) rfl rfl (by omega) (by omega) (by decide) dX4_stoopedTogether_18 ?_
        refine jx_get E f_X0 4 (v := vI ((x 0) (21 + 5 * (k : Int) + 4))) (wx_fou (j := 0) (by decide) (by omega) (by omega)) (by decide) wf_X4_79 rfl dX4_stoopedTogether_19 ?_
        refine jx_iadd E dX4_stoopedTogether_22 ?_
        refine jx_istore_n E dX4_stoopedTogether_23 (by decide) [(1, vI ((sumP (fun i => x 0 (21 + 5 * i + 4)) k) + ((x 0) (21 + 5 * (k : Int) + 4)))), (2, vI (k : Int)), (0, .ref (a 1))] rfl ?_
        refine jx_iinc E 1 dX4_stoopedTogether_24 rfl (by decide) [(2, vI ((k : Int) + 1)), (1, vI ((sumP (fun i => x 0 (21 + 5 * i + 4)) k) + ((x 0) (21 + 5 * (k : Int) + 4)))), (0, .ref (a 1))] rfl ?_
        refine jx_goto (tgt := 4) E dX4_stoopedTogether_27 (by decide) ?_
        exact ih (k + 1) (by omega) (by omega)
  exact LP4 9 0 (by omega) (by omega)
set_option maxHeartbeats 4000000 in
theorem c_X4_stoopedTogether_1 (l : Launch) (G : GT) (a : Nat → Nat) (x : MS) (h1 : VV (x 1)) : CtI l G yX4_stoopedTogether cX4_stoopedTogether 3 (some .int) 1 [.ref (a 13)] (wsX G a x) (stoopedP (x 1)) (wsX G a x) := by
  have hF := h1.2.2.2.2.2.2.2
  have h4 := h1.2.2.2.2.1
  obtain ⟨hD, hC⟩ := VV_use h1
  refine CtI.of (by decide) (Nat.le_of_ble_eq_true rfl) ?_
  intro p e s m args below meth c A E hr
  refine jx_lv (lv' := [(0, .ref (a 13))]) [0] rfl ?_
  refine jx_iconst E dX4_stoopedTogether_0 ?_
  refine jx_istore_n E dX4_stoopedTogether_1 (by decide) [(1, vI 0), (0, .ref (a 13))] rfl ?_
  refine jx_iconst E dX4_stoopedTogether_2 ?_
  refine jx_istore_n E dX4_stoopedTogether_3 (by decide) [(2, vI 0), (1, vI 0), (0, .ref (a 13))] rfl ?_
  have LP4 : ∀ (n2 : Nat) (k : Nat), ((k : Int) ≤ x 1 4) → (x 1 4 - (k : Int) < n2) → JX p l e (rmL 1) s m args below meth c 3 G A 0 0 (QI below args s G A (stoopedP (x 1)) (wsX G a x)) (wsX G a x) 4 [(2, vI (k : Int)), (1, vI (sumP (fun i => x 1 (21 + 5 * i + 4)) k)), (0, .ref (a 13))] [] := by
    intro n2
    induction n2 with
    | zero => intro k q1 q2; exfalso; omega
    | succ n2 ih =>
      intro k q1 q2
      refine jx_iload_n E 0 dX4_stoopedTogether_4 rfl ?_
      refine jx_aload_n E 2 dX4_stoopedTogether_5 rfl ?_
      refine jx_get E f_X4 7 (v := vI ((x 1) 4)) (wx_town (j := 1) (by decide)) (by decide) wf_X4_37 rfl dX4_stoopedTogether_6 ?_
      refine jx_icmp_ge (tgt := 30) E dX4_stoopedTogether_9 (by decide) (fun c1 => ?_) (fun c1 => ?_)
      · skip
        refine jx_iload_n E 1 dX4_stoopedTogether_30 rfl ?_
        exact jx_iret E hr dX4_stoopedTogether_31 (by rw [show k = (x 1 4).toNat by omega]; rfl) (by first | rfl | (congr 1; done))
      · skip
        refine jx_iload_n E 1 dX4_stoopedTogether_12 rfl ?_
        refine jx_aload_n E 2 dX4_stoopedTogether_13 rfl ?_
        refine jx_get E f_X4 6 (v := .ref (a 16)) (wx_town (j := 1) (by decide)) (by decide) wf_X4_33 rfl dX4_stoopedTogether_14 ?_
        refine jx_iload_n E 0 dX4_stoopedTogether_17 rfl ?_
        refine jx_aald E 2 (y := a (5 + 12 * 1 + (k : Int).toNat)) (wx_row (j := 1) (by decide)) rfl rfl (by omega) (by omega) (by decide) dX4_stoopedTogether_18 ?_
        refine jx_get E f_X0 4 (v := vI ((x 1) (21 + 5 * (k : Int) + 4))) (wx_fou (j := 1) (by decide) (by omega) (by omega)) (by decide) wf_X4_79 rfl dX4_stoopedTogether_19 ?_
        refine jx_iadd E dX4_stoopedTogether_22 ?_
        refine jx_istore_n E dX4_stoopedTogether_23 (by decide) [(1, vI ((sumP (fun i => x 1 (21 + 5 * i + 4)) k) + ((x 1) (21 + 5 * (k : Int) + 4)))), (2, vI (k : Int)), (0, .ref (a 13))] rfl ?_
        refine jx_iinc E 1 dX4_stoopedTogether_24 rfl (by decide) [(2, vI ((k : Int) + 1)), (1, vI ((sumP (fun i => x 1 (21 + 5 * i + 4)) k) + ((x 1) (21 + 5 * (k : Int) + 4)))), (0, .ref (a 13))] rfl ?_
        refine jx_goto (tgt := 4) E dX4_stoopedTogether_27 (by decide) ?_
        exact ih (k + 1) (by omega) (by omega)
  exact LP4 9 0 (by omega) (by omega)
set_option maxHeartbeats 4000000 in
theorem c_X4_setOfOff_0 (l : Launch) (G : GT) (a : Nat → Nat) (x : MS) (h1 : VV (x 0)) : CtI l G yX4_setOfOff cX4_setOfOff 3 (some .int) 1 [.ref (a 1)] (wsX G a x) (offsN (x 0) ((x 0) 4).toNat) (wsX G a x) := by
  have hF := h1.2.2.2.2.2.2.2
  have h4 := h1.2.2.2.2.1
  obtain ⟨hD, hC⟩ := VV_use h1
  refine CtI.of (by decide) (Nat.le_of_ble_eq_true rfl) ?_
  intro p e s m args below meth c A E hr
  refine jx_lv (lv' := [(0, .ref (a 1))]) [0] rfl ?_
  refine jx_iconst E dX4_setOfOff_0 ?_
  refine jx_istore_n E dX4_setOfOff_1 (by decide) [(1, vI 0), (0, .ref (a 1))] rfl ?_
  refine jx_iconst E dX4_setOfOff_2 ?_
  refine jx_istore_n E dX4_setOfOff_3 (by decide) [(2, vI 0), (1, vI 0), (0, .ref (a 1))] rfl ?_
  have LP4 : ∀ (n2 : Nat) (k : Nat), ((k : Int) ≤ x 0 4) → (x 0 4 - (k : Int) < n2) → JX p l e (rmL 1) s m args below meth c 3 G A 0 0 (QI below args s G A (offsN (x 0) ((x 0) 4).toNat) (wsX G a x)) (wsX G a x) 4 [(2, vI (k : Int)), (1, vI (offsN (x 0) k)), (0, .ref (a 1))] [] := by
    intro n2
    induction n2 with
    | zero => intro k q1 q2; exfalso; omega
    | succ n2 ih =>
      intro k q1 q2
      have hs := offsN_in (t := x 0) k (fun i a b => (hF i a (by omega)).2.2.1)
      refine jx_iload_n E 0 dX4_setOfOff_4 rfl ?_
      refine jx_aload_n E 2 dX4_setOfOff_5 rfl ?_
      refine jx_get E f_X4 7 (v := vI ((x 0) 4)) (wx_town (j := 0) (by decide)) (by decide) wf_X4_37 rfl dX4_setOfOff_6 ?_
      refine jx_icmp_ge (tgt := 32) E dX4_setOfOff_9 (by decide) (fun c1 => ?_) (fun c1 => ?_)
      · skip
        refine jx_iload_n E 1 dX4_setOfOff_32 rfl ?_
        exact jx_iret E hr dX4_setOfOff_33 (by rw [show k = (x 0 4).toNat by omega]) (by first | rfl | (congr 1; done))
      · skip
        refine jx_iload_n E 1 dX4_setOfOff_12 rfl ?_
        refine jx_aload_n E 2 dX4_setOfOff_13 rfl ?_
        refine jx_get E f_X4 6 (v := .ref (a 4)) (wx_town (j := 0) (by decide)) (by decide) wf_X4_33 rfl dX4_setOfOff_14 ?_
        refine jx_iload_n E 0 dX4_setOfOff_17 rfl ?_
        refine jx_aald E 2 (y := a (5 + 12 * 0 + (k : Int).toNat)) (wx_row (j := 0) (by decide)) rfl rfl (by omega) (by omega) (by decide) dX4_setOfOff_18 ?_
        refine jx_get E f_X0 2 (v := vI ((x 0) (21 + 5 * (k : Int) + 2))) (wx_fou (j := 0) (by decide) (by omega) (by omega)) (by decide) wf_X4_65 rfl dX4_setOfOff_19 ?_
        refine jx_iload_n E 0 dX4_setOfOff_22 rfl ?_
        refine jx_ishl E (z := x 0 (21 + 5 * (k : Int) + 2) * 2 ^ k) dX4_setOfOff_23 (sh_of (by omega) (hF _ (by omega) (by omega)).2.2.1) ?_
        refine jx_ior E (z := offsN (x 0) k + x 0 (21 + 5 * (k : Int) + 2) * 2 ^ k) dX4_setOfOff_24 (or_of (by omega) hs (hF _ (by omega) (by omega)).2.2.1) ?_
        refine jx_istore_n E dX4_setOfOff_25 (by decide) [(1, vI (offsN (x 0) k + x 0 (21 + 5 * (k : Int) + 2) * 2 ^ k)), (2, vI (k : Int)), (0, .ref (a 1))] rfl ?_
        refine jx_iinc E 1 dX4_setOfOff_26 rfl (by decide) [(2, vI ((k : Int) + 1)), (1, vI (offsN (x 0) k + x 0 (21 + 5 * (k : Int) + 2) * 2 ^ k)), (0, .ref (a 1))] rfl ?_
        refine jx_goto (tgt := 4) E dX4_setOfOff_29 (by decide) ?_
        exact ih (k + 1) (by omega) (by omega)
  exact LP4 9 0 (by omega) (by omega)
set_option maxHeartbeats 4000000 in
theorem c_X4_setOfOff_1 (l : Launch) (G : GT) (a : Nat → Nat) (x : MS) (h1 : VV (x 1)) : CtI l G yX4_setOfOff cX4_setOfOff 3 (some .int) 1 [.ref (a 13)] (wsX G a x) (offsN (x 1) ((x 1) 4).toNat) (wsX G a x) := by
  have hF := h1.2.2.2.2.2.2.2
  have h4 := h1.2.2.2.2.1
  obtain ⟨hD, hC⟩ := VV_use h1
  refine CtI.of (by decide) (Nat.le_of_ble_eq_true rfl) ?_
  intro p e s m args below meth c A E hr
  refine jx_lv (lv' := [(0, .ref (a 13))]) [0] rfl ?_
  refine jx_iconst E dX4_setOfOff_0 ?_
  refine jx_istore_n E dX4_setOfOff_1 (by decide) [(1, vI 0), (0, .ref (a 13))] rfl ?_
  refine jx_iconst E dX4_setOfOff_2 ?_
  refine jx_istore_n E dX4_setOfOff_3 (by decide) [(2, vI 0), (1, vI 0), (0, .ref (a 13))] rfl ?_
  have LP4 : ∀ (n2 : Nat) (k : Nat), ((k : Int) ≤ x 1 4) → (x 1 4 - (k : Int) < n2) → JX p l e (rmL 1) s m args below meth c 3 G A 0 0 (QI below args s G A (offsN (x 1) ((x 1) 4).toNat) (wsX G a x)) (wsX G a x) 4 [(2, vI (k : Int)), (1, vI (offsN (x 1) k)), (0, .ref (a 13))] [] := by
    intro n2
    induction n2 with
    | zero => intro k q1 q2; exfalso; omega
    | succ n2 ih =>
      intro k q1 q2
      have hs := offsN_in (t := x 1) k (fun i a b => (hF i a (by omega)).2.2.1)
      refine jx_iload_n E 0 dX4_setOfOff_4 rfl ?_
      refine jx_aload_n E 2 dX4_setOfOff_5 rfl ?_
      refine jx_get E f_X4 7 (v := vI ((x 1) 4)) (wx_town (j := 1) (by decide)) (by decide) wf_X4_37 rfl dX4_setOfOff_6 ?_
      refine jx_icmp_ge (tgt := 32) E dX4_setOfOff_9 (by decide) (fun c1 => ?_) (fun c1 => ?_)
      · skip
        refine jx_iload_n E 1 dX4_setOfOff_32 rfl ?_
        exact jx_iret E hr dX4_setOfOff_33 (by rw [show k = (x 1 4).toNat by omega]) (by first | rfl | (congr 1; done))
      · skip
        refine jx_iload_n E 1 dX4_setOfOff_12 rfl ?_
        refine jx_aload_n E 2 dX4_setOfOff_13 rfl ?_
        refine jx_get E f_X4 6 (v := .ref (a 16)) (wx_town (j := 1) (by decide)) (by decide) wf_X4_33 rfl dX4_setOfOff_14 ?_
        refine jx_iload_n E 0 dX4_setOfOff_17 rfl ?_
        refine jx_aald E 2 (y := a (5 + 12 * 1 + (k : Int).toNat)) (wx_row (j := 1) (by decide)) rfl rfl (by omega) (by omega) (by decide) dX4_setOfOff_18 ?_
        refine jx_get E f_X0 2 (v := vI ((x 1) (21 + 5 * (k : Int) + 2))) (wx_fou (j := 1) (by decide) (by omega) (by omega)) (by decide) wf_X4_65 rfl dX4_setOfOff_19 ?_
        refine jx_iload_n E 0 dX4_setOfOff_22 rfl ?_
        refine jx_ishl E (z := x 1 (21 + 5 * (k : Int) + 2) * 2 ^ k) dX4_setOfOff_23 (sh_of (by omega) (hF _ (by omega) (by omega)).2.2.1) ?_
        refine jx_ior E (z := offsN (x 1) k + x 1 (21 + 5 * (k : Int) + 2) * 2 ^ k) dX4_setOfOff_24 (or_of (by omega) hs (hF _ (by omega) (by omega)).2.2.1) ?_
        refine jx_istore_n E dX4_setOfOff_25 (by decide) [(1, vI (offsN (x 1) k + x 1 (21 + 5 * (k : Int) + 2) * 2 ^ k)), (2, vI (k : Int)), (0, .ref (a 13))] rfl ?_
        refine jx_iinc E 1 dX4_setOfOff_26 rfl (by decide) [(2, vI ((k : Int) + 1)), (1, vI (offsN (x 1) k + x 1 (21 + 5 * (k : Int) + 2) * 2 ^ k)), (0, .ref (a 13))] rfl ?_
        refine jx_goto (tgt := 4) E dX4_setOfOff_29 (by decide) ?_
        exact ih (k + 1) (by omega) (by omega)
  exact LP4 9 0 (by omega) (by omega)
set_option maxHeartbeats 4000000 in
theorem c_X4_givesWayMost_0 (l : Launch) (G : GT) (a : Nat → Nat) (x : MS) (h1 : VV (x 0)) : CtI l G yX4_givesWayMost cX4_givesWayMost 5 (some .int) 2 [.ref (a 1)] (wsX G a x) (bestP (x 0) 0 1 ((x 0) 4).toNat) (wsX G a x) := by
  have hF := h1.2.2.2.2.2.2.2
  have h4 := h1.2.2.2.2.1
  obtain ⟨hD, hC⟩ := VV_use h1
  refine CtI.of (by decide) (Nat.le_of_ble_eq_true rfl) ?_
  intro p e s m args below meth c A E hr
  refine jx_lv (lv' := [(0, .ref (a 1))]) [0] rfl ?_
  refine jx_iconst E dX4_givesWayMost_0 ?_
  refine jx_istore_n E dX4_givesWayMost_1 (by decide) [(1, vI (-1)), (0, .ref (a 1))] rfl ?_
  refine jx_iconst E dX4_givesWayMost_2 ?_
  refine jx_istore_n E dX4_givesWayMost_3 (by decide) [(2, vI 0), (1, vI (-1)), (0, .ref (a 1))] rfl ?_
  refine jx_iconst E dX4_givesWayMost_4 ?_
  refine jx_istore_n E dX4_givesWayMost_5 (by decide) [(3, vI 0), (2, vI 0), (1, vI (-1)), (0, .ref (a 1))] rfl ?_
  have LP6 : ∀ (n2 : Nat) (k : Nat) (fs : Int) (ms : Int), ((k : Int) ≤ x 0 4) → (x 0 4 - (k : Int) < n2) → (fs = bestP (x 0) 0 1 k) → (ms = if fs < 0 then 0 else givesP (x 0) fs) → JX p l e (rmL 2) s m args below meth c 5 G A 0 0 (QI below args s G A (bestP (x 0) 0 1 ((x 0) 4).toNat) (wsX G a x)) (wsX G a x) 6 [(3, vI (k : Int)), (2, vI ms), (1, vI fs), (0, .ref (a 1))] [] := by
    intro n2
    induction n2 with
    | zero => intro k fs ms q1 q2 hb hm; exfalso; omega
    | succ n2 ih =>
      intro k fs ms q1 q2 hb hm
      have hbi := best_in (x 0) 0 1 k
      rw [← hb] at hbi
      have hg1 : (k : Int) < x 0 4 → -600 ≤ givesP (x 0) k ∧ givesP (x 0) k ≤ 600 := fun q => by obtain ⟨a1, a2, a3, a4, a5⟩ := hF k (by omega) q; simp only [givesP]; omega
      have hg2 : 0 ≤ fs → -600 ≤ givesP (x 0) fs ∧ givesP (x 0) fs ≤ 600 := fun q => by obtain ⟨a1, a2, a3, a4, a5⟩ := hF fs q (by omega); simp only [givesP]; omega
      have ho : (k : Int) < x 0 4 → 0 ≤ x 0 (21 + 5 * (k : Int) + 2) ∧ x 0 (21 + 5 * (k : Int) + 2) ≤ 1 := fun q => (hF k (by omega) q).2.2.1
      refine jx_iload_n E 0 dX4_givesWayMost_6 rfl ?_
      refine jx_aload_n E 3 dX4_givesWayMost_7 rfl ?_
      refine jx_get E f_X4 7 (v := vI ((x 0) 4)) (wx_town (j := 0) (by decide)) (by decide) wf_X4_37 rfl dX4_givesWayMost_8 ?_
      refine jx_icmp_ge (tgt := 59) E dX4_givesWayMost_11 (by decide) (fun c1 => ?_) (fun c1 => ?_)
      · skip
        refine jx_iload_n E 2 dX4_givesWayMost_59 rfl ?_
        exact jx_iret E hr dX4_givesWayMost_60 (by rw [hb, show k = (x 0 4).toNat by omega]) (by first | rfl | (congr 1; done))
      · skip
        refine jx_aload_n E 3 dX4_givesWayMost_14 rfl ?_
        refine jx_get E f_X4 6 (v := .ref (a 4)) (wx_town (j := 0) (by decide)) (by decide) wf_X4_33 rfl dX4_givesWayMost_15 ?_
        refine jx_iload_n E 0 dX4_givesWayMost_18 rfl ?_
        refine jx_aald E 2 (y := a (5 + 12 * 0 + (k : Int).toNat)) (wx_row (j := 0) (by decide)) rfl rfl (by omega) (by omega) (by decide) dX4_givesWayMost_19 ?_
        refine jx_callVi E [] [] (c_X0_givesWay_0 l G a x (i := (k : Int)) (by omega) (hF _ (by omega) (by omega))) mb_X0_givesWay mv_X0_givesWay wl_X4_82 f_X0 (wx_fou (j := 0) (by decide) (by omega) (by omega)) dX4_givesWayMost_20 ?_
        refine jx_istore E dX4_givesWayMost_23 (by decide) [(4, vI (givesP (x 0) (k : Int))), (3, vI (k : Int)), (2, vI ms), (1, vI fs), (0, .ref (a 1))] rfl ?_
        refine jx_aload_n E 4 dX4_givesWayMost_25 rfl ?_
        refine jx_get E f_X4 6 (v := .ref (a 4)) (wx_town (j := 0) (by decide)) (by decide) wf_X4_33 rfl dX4_givesWayMost_26 ?_
        refine jx_iload_n E 1 dX4_givesWayMost_29 rfl ?_
        refine jx_aald E 2 (y := a (5 + 12 * 0 + (k : Int).toNat)) (wx_row (j := 0) (by decide)) rfl rfl (by omega) (by omega) (by decide) dX4_givesWayMost_30 ?_
        refine jx_get E f_X0 2 (v := vI ((x 0) (21 + 5 * (k : Int) + 2))) (wx_fou (j := 0) (by decide) (by omega) (by omega)) (by decide) wf_X4_65 rfl dX4_givesWayMost_31 ?_
        refine jx_if_ne (tgt := 53) E dX4_givesWayMost_34 (by decide) (fun c2 => ?_) (fun c2 => ?_)
        · skip
          refine jx_iinc E 1 dX4_givesWayMost_53 rfl (by decide) [(3, vI ((k : Int) + 1)), (4, vI (givesP (x 0) (k : Int))), (2, vI ms), (1, vI fs), (0, .ref (a 1))] rfl ?_
          refine jx_goto (tgt := 6) E dX4_givesWayMost_56 (by decide) ?_
          refine jx_lv (lv' := [(3, vI ((k : Int) + 1)), (2, vI ms), (1, vI fs), (0, .ref (a 1))]) [0, 2, 3, 4] rfl ?_
          exact ih (k + 1) _ _ (by omega) (by omega) (by simp only [bestP, ← hb, true_and, ne_eq, not_true_eq_false, false_and, or_false]; omega) (by omega)
        · skip
          refine jx_iload_n E 3 dX4_givesWayMost_37 rfl ?_
          refine jx_iconst E dX4_givesWayMost_38 ?_
          refine jx_icmp_eq (tgt := 48) E dX4_givesWayMost_39 (by decide) (fun c3 => ?_) (fun c3 => ?_)
          · skip
            refine jx_iload E 0 dX4_givesWayMost_48 rfl ?_
            refine jx_istore_n E dX4_givesWayMost_50 (by decide) [(2, vI (givesP (x 0) (k : Int))), (4, vI (givesP (x 0) (k : Int))), (3, vI (k : Int)), (1, vI fs), (0, .ref (a 1))] rfl ?_
            refine jx_iload_n E 2 dX4_givesWayMost_51 rfl ?_
            refine jx_istore_n E dX4_givesWayMost_52 (by decide) [(1, vI (k : Int)), (2, vI (givesP (x 0) (k : Int))), (4, vI (givesP (x 0) (k : Int))), (3, vI (k : Int)), (0, .ref (a 1))] rfl ?_
            refine jx_iinc E 3 dX4_givesWayMost_53 rfl (by decide) [(3, vI ((k : Int) + 1)), (1, vI (k : Int)), (2, vI (givesP (x 0) (k : Int))), (4, vI (givesP (x 0) (k : Int))), (0, .ref (a 1))] rfl ?_
            refine jx_goto (tgt := 6) E dX4_givesWayMost_56 (by decide) ?_
            refine jx_lv (lv' := [(3, vI ((k : Int) + 1)), (2, vI (givesP (x 0) (k : Int))), (1, vI (k : Int)), (0, .ref (a 1))]) [0, 2, 1, 4] rfl ?_
            exact ih (k + 1) _ _ (by omega) (by omega) (by simp only [bestP, ← hb, true_and, ne_eq, not_true_eq_false, false_and, or_false]; omega) (by omega)
          · skip
            refine jx_iload E 0 dX4_givesWayMost_42 rfl ?_
            refine jx_iload_n E 2 dX4_givesWayMost_44 rfl ?_
            refine jx_icmp_le (tgt := 53) E dX4_givesWayMost_45 (by decide) (fun c4 => ?_) (fun c4 => ?_)
            · skip
              refine jx_iinc E 1 dX4_givesWayMost_53 rfl (by decide) [(3, vI ((k : Int) + 1)), (4, vI (givesP (x 0) (k : Int))), (2, vI ms), (1, vI fs), (0, .ref (a 1))] rfl ?_
              refine jx_goto (tgt := 6) E dX4_givesWayMost_56 (by decide) ?_
              refine jx_lv (lv' := [(3, vI ((k : Int) + 1)), (2, vI ms), (1, vI fs), (0, .ref (a 1))]) [0, 2, 3, 4] rfl ?_
              exact ih (k + 1) _ _ (by omega) (by omega) (by simp only [bestP, ← hb, true_and, ne_eq, not_true_eq_false, false_and, or_false]; omega) (by omega)
            · skip
              refine jx_iload E 0 dX4_givesWayMost_48 rfl ?_
              refine jx_istore_n E dX4_givesWayMost_50 (by decide) [(2, vI (givesP (x 0) (k : Int))), (4, vI (givesP (x 0) (k : Int))), (3, vI (k : Int)), (1, vI fs), (0, .ref (a 1))] rfl ?_
              refine jx_iload_n E 2 dX4_givesWayMost_51 rfl ?_
              refine jx_istore_n E dX4_givesWayMost_52 (by decide) [(1, vI (k : Int)), (2, vI (givesP (x 0) (k : Int))), (4, vI (givesP (x 0) (k : Int))), (3, vI (k : Int)), (0, .ref (a 1))] rfl ?_
              refine jx_iinc E 3 dX4_givesWayMost_53 rfl (by decide) [(3, vI ((k : Int) + 1)), (1, vI (k : Int)), (2, vI (givesP (x 0) (k : Int))), (4, vI (givesP (x 0) (k : Int))), (0, .ref (a 1))] rfl ?_
              refine jx_goto (tgt := 6) E dX4_givesWayMost_56 (by decide) ?_
              refine jx_lv (lv' := [(3, vI ((k : Int) + 1)), (2, vI (givesP (x 0) (k : Int))), (1, vI (k : Int)), (0, .ref (a 1))]) [0, 2, 1, 4] rfl ?_
              exact ih (k + 1) _ _ (by omega) (by omega) (by simp only [bestP, ← hb, true_and, ne_eq, not_true_eq_false, false_and, or_false]; omega) (by omega)
  exact LP6 9 0 _ _ (by omega) (by omega) rfl rfl
set_option maxHeartbeats 4000000 in
theorem c_X4_givesWayMost_1 (l : Launch) (G : GT) (a : Nat → Nat) (x : MS) (h1 : VV (x 1)) : CtI l G yX4_givesWayMost cX4_givesWayMost 5 (some .int) 2 [.ref (a 13)] (wsX G a x) (bestP (x 1) 0 1 ((x 1) 4).toNat) (wsX G a x) := by
  have hF := h1.2.2.2.2.2.2.2
  have h4 := h1.2.2.2.2.1
  obtain ⟨hD, hC⟩ := VV_use h1
  refine CtI.of (by decide) (Nat.le_of_ble_eq_true rfl) ?_
  intro p e s m args below meth c A E hr
  refine jx_lv (lv' := [(0, .ref (a 13))]) [0] rfl ?_
  refine jx_iconst E dX4_givesWayMost_0 ?_
  refine jx_istore_n E dX4_givesWayMost_1 (by decide) [(1, vI (-1)), (0, .ref (a 13))] rfl ?_
  refine jx_iconst E dX4_givesWayMost_2 ?_
  refine jx_istore_n E dX4_givesWayMost_3 (by decide) [(2, vI 0), (1, vI (-1)), (0, .ref (a 13))] rfl ?_
  refine jx_iconst E dX4_givesWayMost_4 ?_
  refine jx_istore_n E dX4_givesWayMost_5 (by decide) [(3, vI 0), (2, vI 0), (1, vI (-1)), (0, .ref (a 13))] rfl ?_
  have LP6 : ∀ (n2 : Nat) (k : Nat) (fs : Int) (ms : Int), ((k : Int) ≤ x 1 4) → (x 1 4 - (k : Int) < n2) → (fs = bestP (x 1) 0 1 k) → (ms = if fs < 0 then 0 else givesP (x 1) fs) → JX p l e (rmL 2) s m args below meth c 5 G A 0 0 (QI below args s G A (bestP (x 1) 0 1 ((x 1) 4).toNat) (wsX G a x)) (wsX G a x) 6 [(3, vI (k : Int)), (2, vI ms), (1, vI fs), (0, .ref (a 13))] [] := by
    intro n2
    induction n2 with
    | zero => intro k fs ms q1 q2 hb hm; exfalso; omega
    | succ n2 ih =>
      intro k fs ms q1 q2 hb hm
      have hbi := best_in (x 1) 0 1 k
      rw [← hb] at hbi
      have hg1 : (k : Int) < x 1 4 → -600 ≤ givesP (x 1) k ∧ givesP (x 1) k ≤ 600 := fun q => by obtain ⟨a1, a2, a3, a4, a5⟩ := hF k (by omega) q; simp only [givesP]; omega
      have hg2 : 0 ≤ fs → -600 ≤ givesP (x 1) fs ∧ givesP (x 1) fs ≤ 600 := fun q => by obtain ⟨a1, a2, a3, a4, a5⟩ := hF fs q (by omega); simp only [givesP]; omega
      have ho : (k : Int) < x 1 4 → 0 ≤ x 1 (21 + 5 * (k : Int) + 2) ∧ x 1 (21 + 5 * (k : Int) + 2) ≤ 1 := fun q => (hF k (by omega) q).2.2.1
      refine jx_iload_n E 0 dX4_givesWayMost_6 rfl ?_
      refine jx_aload_n E 3 dX4_givesWayMost_7 rfl ?_
      refine jx_get E f_X4 7 (v := vI ((x 1) 4)) (wx_town (j := 1) (by decide)) (by decide) wf_X4_37 rfl dX4_givesWayMost_8 ?_
      refine jx_icmp_ge (tgt := 59) E dX4_givesWayMost_11 (by decide) (fun c1 => ?_) (fun c1 => ?_)
      · skip
        refine jx_iload_n E 2 dX4_givesWayMost_59 rfl ?_
        exact jx_iret E hr dX4_givesWayMost_60 (by rw [hb, show k = (x 1 4).toNat by omega]) (by first | rfl | (congr 1; done))
      · skip
        refine jx_aload_n E 3 dX4_givesWayMost_14 rfl ?_
        refine jx_get E f_X4 6 (v := .ref (a 16)) (wx_town (j := 1) (by decide)) (by decide) wf_X4_33 rfl dX4_givesWayMost_15 ?_
        refine jx_iload_n E 0 dX4_givesWayMost_18 rfl ?_
        refine jx_aald E 2 (y := a (5 + 12 * 1 + (k : Int).toNat)) (wx_row (j := 1) (by decide)) rfl rfl (by omega) (by omega) (by decide) dX4_givesWayMost_19 ?_
        refine jx_callVi E [] [] (c_X0_givesWay_1 l G a x (i := (k : Int)) (by omega) (hF _ (by omega) (by omega))) mb_X0_givesWay mv_X0_givesWay wl_X4_82 f_X0 (wx_fou (j := 1) (by decide) (by omega) (by omega)) dX4_givesWayMost_20 ?_
        refine jx_istore E dX4_givesWayMost_23 (by decide) [(4, vI (givesP (x 1) (k : Int))), (3, vI (k : Int)), (2, vI ms), (1, vI fs), (0, .ref (a 13))] rfl ?_
        refine jx_aload_n E 4 dX4_givesWayMost_25 rfl ?_
        refine jx_get E f_X4 6 (v := .ref (a 16)) (wx_town (j := 1) (by decide)) (by decide) wf_X4_33 rfl dX4_givesWayMost_26 ?_
        refine jx_iload_n E 1 dX4_givesWayMost_29 rfl ?_
        refine jx_aald E 2 (y := a (5 + 12 * 1 + (k : Int).toNat)) (wx_row (j := 1) (by decide)) rfl rfl (by omega) (by omega) (by decide) dX4_givesWayMost_30 ?_
        refine jx_get E f_X0 2 (v := vI ((x 1) (21 + 5 * (k : Int) + 2))) (wx_fou (j := 1) (by decide) (by omega) (by omega)) (by decide) wf_X4_65 rfl dX4_givesWayMost_31 ?_
        refine jx_if_ne (tgt := 53) E dX4_givesWayMost_34 (by decide) (fun c2 => ?_) (fun c2 => ?_)
        · skip
          refine jx_iinc E 1 dX4_givesWayMost_53 rfl (by decide) [(3, vI ((k : Int) + 1)), (4, vI (givesP (x 1) (k : Int))), (2, vI ms), (1, vI fs), (0, .ref (a 13))] rfl ?_
          refine jx_goto (tgt := 6) E dX4_givesWayMost_56 (by decide) ?_
          refine jx_lv (lv' := [(3, vI ((k : Int) + 1)), (2, vI ms), (1, vI fs), (0, .ref (a 13))]) [0, 2, 3, 4] rfl ?_
          exact ih (k + 1) _ _ (by omega) (by omega) (by simp only [bestP, ← hb, true_and, ne_eq, not_true_eq_false, false_and, or_false]; omega) (by omega)
        · skip
          refine jx_iload_n E 3 dX4_givesWayMost_37 rfl ?_
          refine jx_iconst E dX4_givesWayMost_38 ?_
          refine jx_icmp_eq (tgt := 48) E dX4_givesWayMost_39 (by decide) (fun c3 => ?_) (fun c3 => ?_)
          · skip
            refine jx_iload E 0 dX4_givesWayMost_48 rfl ?_
            refine jx_istore_n E dX4_givesWayMost_50 (by decide) [(2, vI (givesP (x 1) (k : Int))), (4, vI (givesP (x 1) (k : Int))), (3, vI (k : Int)), (1, vI fs), (0, .ref (a 13))] rfl ?_
            refine jx_iload_n E 2 dX4_givesWayMost_51 rfl ?_
            refine jx_istore_n E dX4_givesWayMost_52 (by decide) [(1, vI (k : Int)), (2, vI (givesP (x 1) (k : Int))), (4, vI (givesP (x 1) (k : Int))), (3, vI (k : Int)), (0, .ref (a 13))] rfl ?_
            refine jx_iinc E 3 dX4_givesWayMost_53 rfl (by decide) [(3, vI ((k : Int) + 1)), (1, vI (k : Int)), (2, vI (givesP (x 1) (k : Int))), (4, vI (givesP (x 1) (k : Int))), (0, .ref (a 13))] rfl ?_
            refine jx_goto (tgt := 6) E dX4_givesWayMost_56 (by decide) ?_
            refine jx_lv (lv' := [(3, vI ((k : Int) + 1)), (2, vI (givesP (x 1) (k : Int))), (1, vI (k : Int)), (0, .ref (a 13))]) [0, 2, 1, 4] rfl ?_
            exact ih (k + 1) _ _ (by omega) (by omega) (by simp only [bestP, ← hb, true_and, ne_eq, not_true_eq_false, false_and, or_false]; omega) (by omega)
          · skip
            refine jx_iload E 0 dX4_givesWayMost_42 rfl ?_
            refine jx_iload_n E 2 dX4_givesWayMost_44 rfl ?_
            refine jx_icmp_le (tgt := 53) E dX4_givesWayMost_45 (by decide) (fun c4 => ?_) (fun c4 => ?_)
            · skip
              refine jx_iinc E 1 dX4_givesWayMost_53 rfl (by decide) [(3, vI ((k : Int) + 1)), (4, vI (givesP (x 1) (k : Int))), (2, vI ms), (1, vI fs), (0, .ref (a 13))] rfl ?_
              refine jx_goto (tgt := 6) E dX4_givesWayMost_56 (by decide) ?_
              refine jx_lv (lv' := [(3, vI ((k : Int) + 1)), (2, vI ms), (1, vI fs), (0, .ref (a 13))]) [0, 2, 3, 4] rfl ?_
              exact ih (k + 1) _ _ (by omega) (by omega) (by simp only [bestP, ← hb, true_and, ne_eq, not_true_eq_false, false_and, or_false]; omega) (by omega)
            · skip
              refine jx_iload E 0 dX4_givesWayMost_48 rfl ?_
              refine jx_istore_n E dX4_givesWayMost_50 (by decide) [(2, vI (givesP (x 1) (k : Int))), (4, vI (givesP (x 1) (k : Int))), (3, vI (k : Int)), (1, vI fs), (0, .ref (a 13))] rfl ?_
              refine jx_iload_n E 2 dX4_givesWayMost_51 rfl ?_
              refine jx_istore_n E dX4_givesWayMost_52 (by decide) [(1, vI (k : Int)), (2, vI (givesP (x 1) (k : Int))), (4, vI (givesP (x 1) (k : Int))), (3, vI (k : Int)), (0, .ref (a 13))] rfl ?_
              refine jx_iinc E 3 dX4_givesWayMost_53 rfl (by decide) [(3, vI ((k : Int) + 1)), (1, vI (k : Int)), (2, vI (givesP (x 1) (k : Int))), (4, vI (givesP (x 1) (k : Int))), (0, .ref (a 13))] rfl ?_
              refine jx_goto (tgt := 6) E dX4_givesWayMost_56 (by decide) ?_
              refine jx_lv (lv' := [(3, vI ((k : Int) + 1)), (2, vI (givesP (x 1) (k : Int))), (1, vI (k : Int)), (0, .ref (a 13))]) [0, 2, 1, 4] rfl ?_
              exact ih (k + 1) _ _ (by omega) (by omega) (by simp only [bestP, ← hb, true_and, ne_eq, not_true_eq_false, false_and, or_false]; omega) (by omega)
  exact LP6 9 0 _ _ (by omega) (by omega) rfl rfl
set_option maxHeartbeats 4000000 in
theorem c_X4_givesWayLeast_0 (l : Launch) (G : GT) (a : Nat → Nat) (x : MS) (h1 : VV (x 0)) : CtI l G yX4_givesWayLeast cX4_givesWayLeast 5 (some .int) 2 [.ref (a 1)] (wsX G a x) (bestP (x 0) 1 0 ((x 0) 4).toNat) (wsX G a x) := by
  have hF := h1.2.2.2.2.2.2.2
  have h4 := h1.2.2.2.2.1
  obtain ⟨hD, hC⟩ := VV_use h1
  refine CtI.of (by decide) (Nat.le_of_ble_eq_true rfl) ?_
  intro p e s m args below meth c A E hr
  refine jx_lv (lv' := [(0, .ref (a 1))]) [0] rfl ?_
  refine jx_iconst E dX4_givesWayLeast_0 ?_
  refine jx_istore_n E dX4_givesWayLeast_1 (by decide) [(1, vI (-1)), (0, .ref (a 1))] rfl ?_
  refine jx_iconst E dX4_givesWayLeast_2 ?_
  refine jx_istore_n E dX4_givesWayLeast_3 (by decide) [(2, vI 0), (1, vI (-1)), (0, .ref (a 1))] rfl ?_
  refine jx_iconst E dX4_givesWayLeast_4 ?_
  refine jx_istore_n E dX4_givesWayLeast_5 (by decide) [(3, vI 0), (2, vI 0), (1, vI (-1)), (0, .ref (a 1))] rfl ?_
  have LP6 : ∀ (n2 : Nat) (k : Nat) (fs : Int) (ms : Int), ((k : Int) ≤ x 0 4) → (x 0 4 - (k : Int) < n2) → (fs = bestP (x 0) 1 0 k) → (ms = if fs < 0 then 0 else givesP (x 0) fs) → JX p l e (rmL 2) s m args below meth c 5 G A 0 0 (QI below args s G A (bestP (x 0) 1 0 ((x 0) 4).toNat) (wsX G a x)) (wsX G a x) 6 [(3, vI (k : Int)), (2, vI ms), (1, vI fs), (0, .ref (a 1))] [] := by
    intro n2
    induction n2 with
    | zero => intro k fs ms q1 q2 hb hm; exfalso; omega
    | succ n2 ih =>
      intro k fs ms q1 q2 hb hm
      have hbi := best_in (x 0) 1 0 k
      rw [← hb] at hbi
      have hg1 : (k : Int) < x 0 4 → -600 ≤ givesP (x 0) k ∧ givesP (x 0) k ≤ 600 := fun q => by obtain ⟨a1, a2, a3, a4, a5⟩ := hF k (by omega) q; simp only [givesP]; omega
      have hg2 : 0 ≤ fs → -600 ≤ givesP (x 0) fs ∧ givesP (x 0) fs ≤ 600 := fun q => by obtain ⟨a1, a2, a3, a4, a5⟩ := hF fs q (by omega); simp only [givesP]; omega
      have ho : (k : Int) < x 0 4 → 0 ≤ x 0 (21 + 5 * (k : Int) + 2) ∧ x 0 (21 + 5 * (k : Int) + 2) ≤ 1 := fun q => (hF k (by omega) q).2.2.1
      refine jx_iload_n E 0 dX4_givesWayLeast_6 rfl ?_
      refine jx_aload_n E 3 dX4_givesWayLeast_7 rfl ?_
      refine jx_get E f_X4 7 (v := vI ((x 0) 4)) (wx_town (j := 0) (by decide)) (by decide) wf_X4_37 rfl dX4_givesWayLeast_8 ?_
      refine jx_icmp_ge (tgt := 60) E dX4_givesWayLeast_11 (by decide) (fun c1 => ?_) (fun c1 => ?_)
      · skip
        refine jx_iload_n E 2 dX4_givesWayLeast_60 rfl ?_
        exact jx_iret E hr dX4_givesWayLeast_61 (by rw [hb, show k = (x 0 4).toNat by omega]) (by first | rfl | (congr 1; done))
      · skip
        refine jx_aload_n E 3 dX4_givesWayLeast_14 rfl ?_
        refine jx_get E f_X4 6 (v := .ref (a 4)) (wx_town (j := 0) (by decide)) (by decide) wf_X4_33 rfl dX4_givesWayLeast_15 ?_
        refine jx_iload_n E 0 dX4_givesWayLeast_18 rfl ?_
        refine jx_aald E 2 (y := a (5 + 12 * 0 + (k : Int).toNat)) (wx_row (j := 0) (by decide)) rfl rfl (by omega) (by omega) (by decide) dX4_givesWayLeast_19 ?_
        refine jx_callVi E [] [] (c_X0_givesWay_0 l G a x (i := (k : Int)) (by omega) (hF _ (by omega) (by omega))) mb_X0_givesWay mv_X0_givesWay wl_X4_82 f_X0 (wx_fou (j := 0) (by decide) (by omega) (by omega)) dX4_givesWayLeast_20 ?_
        refine jx_istore E dX4_givesWayLeast_23 (by decide) [(4, vI (givesP (x 0) (k : Int))), (3, vI (k : Int)), (2, vI ms), (1, vI fs), (0, .ref (a 1))] rfl ?_
        refine jx_aload_n E 4 dX4_givesWayLeast_25 rfl ?_
        refine jx_get E f_X4 6 (v := .ref (a 4)) (wx_town (j := 0) (by decide)) (by decide) wf_X4_33 rfl dX4_givesWayLeast_26 ?_
        refine jx_iload_n E 1 dX4_givesWayLeast_29 rfl ?_
        refine jx_aald E 2 (y := a (5 + 12 * 0 + (k : Int).toNat)) (wx_row (j := 0) (by decide)) rfl rfl (by omega) (by omega) (by decide) dX4_givesWayLeast_30 ?_
        refine jx_get E f_X0 2 (v := vI ((x 0) (21 + 5 * (k : Int) + 2))) (wx_fou (j := 0) (by decide) (by omega) (by omega)) (by decide) wf_X4_65 rfl dX4_givesWayLeast_31 ?_
        refine jx_iconst E dX4_givesWayLeast_34 ?_
        refine jx_icmp_ne (tgt := 54) E dX4_givesWayLeast_35 (by decide) (fun c2 => ?_) (fun c2 => ?_)
        · skip
          refine jx_iinc E 1 dX4_givesWayLeast_54 rfl (by decide) [(3, vI ((k : Int) + 1)), (4, vI (givesP (x 0) (k : Int))), (2, vI ms), (1, vI fs), (0, .ref (a 1))] rfl ?_
          refine jx_goto (tgt := 6) E dX4_givesWayLeast_57 (by decide) ?_
          refine jx_lv (lv' := [(3, vI ((k : Int) + 1)), (2, vI ms), (1, vI fs), (0, .ref (a 1))]) [0, 2, 3, 4] rfl ?_
          exact ih (k + 1) _ _ (by omega) (by omega) (by simp only [bestP, ← hb, true_and, ne_eq, not_true_eq_false, false_and, or_false]; omega) (by omega)
        · skip
          refine jx_iload_n E 3 dX4_givesWayLeast_38 rfl ?_
          refine jx_iconst E dX4_givesWayLeast_39 ?_
          refine jx_icmp_eq (tgt := 49) E dX4_givesWayLeast_40 (by decide) (fun c3 => ?_) (fun c3 => ?_)
          · skip
            refine jx_iload E 0 dX4_givesWayLeast_49 rfl ?_
            refine jx_istore_n E dX4_givesWayLeast_51 (by decide) [(2, vI (givesP (x 0) (k : Int))), (4, vI (givesP (x 0) (k : Int))), (3, vI (k : Int)), (1, vI fs), (0, .ref (a 1))] rfl ?_
            refine jx_iload_n E 2 dX4_givesWayLeast_52 rfl ?_
            refine jx_istore_n E dX4_givesWayLeast_53 (by decide) [(1, vI (k : Int)), (2, vI (givesP (x 0) (k : Int))), (4, vI (givesP (x 0) (k : Int))), (3, vI (k : Int)), (0, .ref (a 1))] rfl ?_
            refine jx_iinc E 3 dX4_givesWayLeast_54 rfl (by decide) [(3, vI ((k : Int) + 1)), (1, vI (k : Int)), (2, vI (givesP (x 0) (k : Int))), (4, vI (givesP (x 0) (k : Int))), (0, .ref (a 1))] rfl ?_
            refine jx_goto (tgt := 6) E dX4_givesWayLeast_57 (by decide) ?_
            refine jx_lv (lv' := [(3, vI ((k : Int) + 1)), (2, vI (givesP (x 0) (k : Int))), (1, vI (k : Int)), (0, .ref (a 1))]) [0, 2, 1, 4] rfl ?_
            exact ih (k + 1) _ _ (by omega) (by omega) (by simp only [bestP, ← hb, true_and, ne_eq, not_true_eq_false, false_and, or_false]; omega) (by omega)
          · skip
            refine jx_iload E 0 dX4_givesWayLeast_43 rfl ?_
            refine jx_iload_n E 2 dX4_givesWayLeast_45 rfl ?_
            refine jx_icmp_ge (tgt := 54) E dX4_givesWayLeast_46 (by decide) (fun c4 => ?_) (fun c4 => ?_)
            · skip
              refine jx_iinc E 1 dX4_givesWayLeast_54 rfl (by decide) [(3, vI ((k : Int) + 1)), (4, vI (givesP (x 0) (k : Int))), (2, vI ms), (1, vI fs), (0, .ref (a 1))] rfl ?_
              refine jx_goto (tgt := 6) E dX4_givesWayLeast_57 (by decide) ?_
              refine jx_lv (lv' := [(3, vI ((k : Int) + 1)), (2, vI ms), (1, vI fs), (0, .ref (a 1))]) [0, 2, 3, 4] rfl ?_
              exact ih (k + 1) _ _ (by omega) (by omega) (by simp only [bestP, ← hb, true_and, ne_eq, not_true_eq_false, false_and, or_false]; omega) (by omega)
            · skip
              refine jx_iload E 0 dX4_givesWayLeast_49 rfl ?_
              refine jx_istore_n E dX4_givesWayLeast_51 (by decide) [(2, vI (givesP (x 0) (k : Int))), (4, vI (givesP (x 0) (k : Int))), (3, vI (k : Int)), (1, vI fs), (0, .ref (a 1))] rfl ?_
              refine jx_iload_n E 2 dX4_givesWayLeast_52 rfl ?_
              refine jx_istore_n E dX4_givesWayLeast_53 (by decide) [(1, vI (k : Int)), (2, vI (givesP (x 0) (k : Int))), (4, vI (givesP (x 0) (k : Int))), (3, vI (k : Int)), (0, .ref (a 1))] rfl ?_
              refine jx_iinc E 3 dX4_givesWayLeast_54 rfl (by decide) [(3, vI ((k : Int) + 1)), (1, vI (k : Int)), (2, vI (givesP (x 0) (k : Int))), (4, vI (givesP (x 0) (k : Int))), (0, .ref (a 1))] rfl ?_
              refine jx_goto (tgt := 6) E dX4_givesWayLeast_57 (by decide) ?_
              refine jx_lv (lv' := [(3, vI ((k : Int) + 1)), (2, vI (givesP (x 0) (k : Int))), (1, vI (k : Int)), (0, .ref (a 1))]) [0, 2, 1, 4] rfl ?_
              exact ih (k + 1) _ _ (by omega) (by omega) (by simp only [bestP, ← hb, true_and, ne_eq, not_true_eq_false, false_and, or_false]; omega) (by omega)
  exact LP6 9 0 _ _ (by omega) (by omega) rfl rfl
set_option maxHeartbeats 4000000 in
theorem c_X4_givesWayLeast_1 (l : Launch) (G : GT) (a : Nat → Nat) (x : MS) (h1 : VV (x 1)) : CtI l G yX4_givesWayLeast cX4_givesWayLeast 5 (some .int) 2 [.ref (a 13)] (wsX G a x) (bestP (x 1) 1 0 ((x 1) 4).toNat) (wsX G a x) := by
  have hF := h1.2.2.2.2.2.2.2
  have h4 := h1.2.2.2.2.1
  obtain ⟨hD, hC⟩ := VV_use h1
  refine CtI.of (by decide) (Nat.le_of_ble_eq_true rfl) ?_
  intro p e s m args below meth c A E hr
  refine jx_lv (lv' := [(0, .ref (a 13))]) [0] rfl ?_
  refine jx_iconst E dX4_givesWayLeast_0 ?_
  refine jx_istore_n E dX4_givesWayLeast_1 (by decide) [(1, vI (-1)), (0, .ref (a 13))] rfl ?_
  refine jx_iconst E dX4_givesWayLeast_2 ?_
  refine jx_istore_n E dX4_givesWayLeast_3 (by decide) [(2, vI 0), (1, vI (-1)), (0, .ref (a 13))] rfl ?_
  refine jx_iconst E dX4_givesWayLeast_4 ?_
  refine jx_istore_n E dX4_givesWayLeast_5 (by decide) [(3, vI 0), (2, vI 0), (1, vI (-1)), (0, .ref (a 13))] rfl ?_
  have LP6 : ∀ (n2 : Nat) (k : Nat) (fs : Int) (ms : Int), ((k : Int) ≤ x 1 4) → (x 1 4 - (k : Int) < n2) → (fs = bestP (x 1) 1 0 k) → (ms = if fs < 0 then 0 else givesP (x 1) fs) → JX p l e (rmL 2) s m args below meth c 5 G A 0 0 (QI below args s G A (bestP (x 1) 1 0 ((x 1) 4).toNat) (wsX G a x)) (wsX G a x) 6 [(3, vI (k : Int)), (2, vI ms), (1, vI fs), (0, .ref (a 13))] [] := by
    intro n2
    induction n2 with
    | zero => intro k fs ms q1 q2 hb hm; exfalso; omega
    | succ n2 ih =>
      intro k fs ms q1 q2 hb hm
      have hbi := best_in (x 1) 1 0 k
      rw [← hb] at hbi
      have hg1 : (k : Int) < x 1 4 → -600 ≤ givesP (x 1) k ∧ givesP (x 1) k ≤ 600 := fun q => by obtain ⟨a1, a2, a3, a4, a5⟩ := hF k (by omega) q; simp only [givesP]; omega
      have hg2 : 0 ≤ fs → -600 ≤ givesP (x 1) fs ∧ givesP (x 1) fs ≤ 600 := fun q => by obtain ⟨a1, a2, a3, a4, a5⟩ := hF fs q (by omega); simp only [givesP]; omega
      have ho : (k : Int) < x 1 4 → 0 ≤ x 1 (21 + 5 * (k : Int) + 2) ∧ x 1 (21 + 5 * (k : Int) + 2) ≤ 1 := fun q => (hF k (by omega) q).2.2.1
      refine jx_iload_n E 0 dX4_givesWayLeast_6 rfl ?_
      refine jx_aload_n E 3 dX4_givesWayLeast_7 rfl ?_
      refine jx_get E f_X4 7 (v := vI ((x 1) 4)) (wx_town (j := 1) (by decide)) (by decide) wf_X4_37 rfl dX4_givesWayLeast_8 ?_
      refine jx_icmp_ge (tgt := 60) E dX4_givesWayLeast_11 (by decide) (fun c1 => ?_) (fun c1 => ?_)
      · skip
        refine jx_iload_n E 2 dX4_givesWayLeast_60 rfl ?_
        exact jx_iret E hr dX4_givesWayLeast_61 (by rw [hb, show k = (x 1 4).toNat by omega]) (by first | rfl | (congr 1; done))
      · skip
        refine jx_aload_n E 3 dX4_givesWayLeast_14 rfl ?_
        refine jx_get E f_X4 6 (v := .ref (a 16)) (wx_town (j := 1) (by decide)) (by decide) wf_X4_33 rfl dX4_givesWayLeast_15 ?_
        refine jx_iload_n E 0 dX4_givesWayLeast_18 rfl ?_
        refine jx_aald E 2 (y := a (5 + 12 * 1 + (k : Int).toNat)) (wx_row (j := 1) (by decide)) rfl rfl (by omega) (by omega) (by decide) dX4_givesWayLeast_19 ?_
        refine jx_callVi E [] [] (c_X0_givesWay_1 l G a x (i := (k : Int)) (by omega) (hF _ (by omega) (by omega))) mb_X0_givesWay mv_X0_givesWay wl_X4_82 f_X0 (wx_fou (j := 1) (by decide) (by omega) (by omega)) dX4_givesWayLeast_20 ?_
        refine jx_istore E dX4_givesWayLeast_23 (by decide) [(4, vI (givesP (x 1) (k : Int))), (3, vI (k : Int)), (2, vI ms), (1, vI fs), (0, .ref (a 13))] rfl ?_
        refine jx_aload_n E 4 dX4_givesWayLeast_25 rfl ?_
        refine jx_get E f_X4 6 (v := .ref (a 16)) (wx_town (j := 1) (by decide)) (by decide) wf_X4_33 rfl dX4_givesWayLeast_26 ?_
        refine jx_iload_n E 1 dX4_givesWayLeast_29 rfl ?_
        refine jx_aald E 2 (y := a (5 + 12 * 1 + (k : Int).toNat)) (wx_row (j := 1) (by decide)) rfl rfl (by omega) (by omega) (by decide) dX4_givesWayLeast_30 ?_
        refine jx_get E f_X0 2 (v := vI ((x 1) (21 + 5 * (k : Int) + 2))) (wx_fou (j := 1) (by decide) (by omega) (by omega)) (by decide) wf_X4_65 rfl dX4_givesWayLeast_31 ?_
        refine jx_iconst E dX4_givesWayLeast_34 ?_
        refine jx_icmp_ne (tgt := 54) E dX4_givesWayLeast_35 (by decide) (fun c2 => ?_) (fun c2 => ?_)
        · skip
          refine jx_iinc E 1 dX4_givesWayLeast_54 rfl (by decide) [(3, vI ((k : Int) + 1)), (4, vI (givesP (x 1) (k : Int))), (2, vI ms), (1, vI fs), (0, .ref (a 13))] rfl ?_
          refine jx_goto (tgt := 6) E dX4_givesWayLeast_57 (by decide) ?_
          refine jx_lv (lv' := [(3, vI ((k : Int) + 1)), (2, vI ms), (1, vI fs), (0, .ref (a 13))]) [0, 2, 3, 4] rfl ?_
          exact ih (k + 1) _ _ (by omega) (by omega) (by simp only [bestP, ← hb, true_and, ne_eq, not_true_eq_false, false_and, or_false]; omega) (by omega)
        · skip
          refine jx_iload_n E 3 dX4_givesWayLeast_38 rfl ?_
          refine jx_iconst E dX4_givesWayLeast_39 ?_
          refine jx_icmp_eq (tgt := 49) E dX4_givesWayLeast_40 (by decide) (fun c3 => ?_) (fun c3 => ?_)
          · skip
            refine jx_iload E 0 dX4_givesWayLeast_49 rfl ?_
            refine jx_istore_n E dX4_givesWayLeast_51 (by decide) [(2, vI (givesP (x 1) (k : Int))), (4, vI (givesP (x 1) (k : Int))), (3, vI (k : Int)), (1, vI fs), (0, .ref (a 13))] rfl ?_
            refine jx_iload_n E 2 dX4_givesWayLeast_52 rfl ?_
            refine jx_istore_n E dX4_givesWayLeast_53 (by decide) [(1, vI (k : Int)), (2, vI (givesP (x 1) (k : Int))), (4, vI (givesP (x 1) (k : Int))), (3, vI (k : Int)), (0, .ref (a 13))] rfl ?_
            refine jx_iinc E 3 dX4_givesWayLeast_54 rfl (by decide) [(3, vI ((k : Int) + 1)), (1, vI (k : Int)), (2, vI (givesP (x 1) (k : Int))), (4, vI (givesP (x 1) (k : Int))), (0, .ref (a 13))] rfl ?_
            refine jx_goto (tgt := 6) E dX4_givesWayLeast_57 (by decide) ?_
            refine jx_lv (lv' := [(3, vI ((k : Int) + 1)), (2, vI (givesP (x 1) (k : Int))), (1, vI (k : Int)), (0, .ref (a 13))]) [0, 2, 1, 4] rfl ?_
            exact ih (k + 1) _ _ (by omega) (by omega) (by simp only [bestP, ← hb, true_and, ne_eq, not_true_eq_false, false_and, or_false]; omega) (by omega)
          · skip
            refine jx_iload E 0 dX4_givesWayLeast_43 rfl ?_
            refine jx_iload_n E 2 dX4_givesWayLeast_45 rfl ?_
            refine jx_icmp_ge (tgt := 54) E dX4_givesWayLeast_46 (by decide) (fun c4 => ?_) (fun c4 => ?_)
            · skip
              refine jx_iinc E 1 dX4_givesWayLeast_54 rfl (by decide) [(3, vI ((k : Int) + 1)), (4, vI (givesP (x 1) (k : Int))), (2, vI ms), (1, vI fs), (0, .ref (a 13))] rfl ?_
              refine jx_goto (tgt := 6) E dX4_givesWayLeast_57 (by decide) ?_
              refine jx_lv (lv' := [(3, vI ((k : Int) + 1)), (2, vI ms), (1, vI fs), (0, .ref (a 13))]) [0, 2, 3, 4] rfl ?_
              exact ih (k + 1) _ _ (by omega) (by omega) (by simp only [bestP, ← hb, true_and, ne_eq, not_true_eq_false, false_and, or_false]; omega) (by omega)
            · skip
              refine jx_iload E 0 dX4_givesWayLeast_49 rfl ?_
              refine jx_istore_n E dX4_givesWayLeast_51 (by decide) [(2, vI (givesP (x 1) (k : Int))), (4, vI (givesP (x 1) (k : Int))), (3, vI (k : Int)), (1, vI fs), (0, .ref (a 13))] rfl ?_
              refine jx_iload_n E 2 dX4_givesWayLeast_52 rfl ?_
              refine jx_istore_n E dX4_givesWayLeast_53 (by decide) [(1, vI (k : Int)), (2, vI (givesP (x 1) (k : Int))), (4, vI (givesP (x 1) (k : Int))), (3, vI (k : Int)), (0, .ref (a 13))] rfl ?_
              refine jx_iinc E 3 dX4_givesWayLeast_54 rfl (by decide) [(3, vI ((k : Int) + 1)), (1, vI (k : Int)), (2, vI (givesP (x 1) (k : Int))), (4, vI (givesP (x 1) (k : Int))), (0, .ref (a 13))] rfl ?_
              refine jx_goto (tgt := 6) E dX4_givesWayLeast_57 (by decide) ?_
              refine jx_lv (lv' := [(3, vI ((k : Int) + 1)), (2, vI (givesP (x 1) (k : Int))), (1, vI (k : Int)), (0, .ref (a 13))]) [0, 2, 1, 4] rfl ?_
              exact ih (k + 1) _ _ (by omega) (by omega) (by simp only [bestP, ← hb, true_and, ne_eq, not_true_eq_false, false_and, or_false]; omega) (by omega)
  exact LP6 9 0 _ _ (by omega) (by omega) rfl rfl
set_option maxHeartbeats 4000000 in
theorem c_X4_letRun_0 (l : Launch) (G : GT) (a : Nat → Nat) (x : MS) {i cd : Int} (h1 : VV (x 0)) (h2 : 0 ≤ i ∧ i < x 0 4) (h3 : cd = 0 ∨ cd = 1) : CtV l G yX4_letRun cX4_letRun 4 none 3 [.ref (a 1), .ref (a (5 + 12 * 0 + i.toNat)), vI cd] (wsX G a x) (wsX G a (setc x 0 (flowP cd (x 0) i))) := by
  have hF := h1.2.2.2.2.2.2.2
  have h4 := h1.2.2.2.2.1
  obtain ⟨hD, hC⟩ := VV_use h1
  have hf := hF i h2.1 h2.2
  have hu := uses_in (c := cd) hf
  obtain ⟨k1, k2, k3, k4, k5⟩ := id hf
  have v1 := h1.2.1
  refine CtV.of (by decide) (Nat.le_of_ble_eq_true rfl) ?_
  intro p e s m args below meth c A E hr
  refine jx_lv (lv' := [(0, .ref (a 1)), (1, .ref (a (5 + 12 * 0 + i.toNat))), (2, vI cd)]) [0, 1, 2] rfl ?_
  refine jx_aload_n E 1 dX4_letRun_0 rfl ?_
  refine jx_iload_n E 2 dX4_letRun_1 rfl ?_
  refine jx_callVi E [vI cd] [] (c_X0_uses_0 l G a x (cd := cd) (i := i) (by omega) hf (by omega)) mb_X0_uses mv_X0_uses wl_X4_75 f_X0 (wx_fou (j := 0) (by decide) (by omega) (by omega)) dX4_letRun_2 ?_
  refine jx_istore_n E dX4_letRun_5 (by decide) [(3, vI (usesP (x 0) i cd)), (0, .ref (a 1)), (1, .ref (a (5 + 12 * 0 + i.toNat))), (2, vI cd)] rfl ?_
  refine jx_aload_n E 1 dX4_letRun_6 rfl ?_
  refine jx_get E f_X4 1 (v := vI ((x 0) 1)) (wx_town (j := 0) (by decide)) (by decide) wf_X4_15 rfl dX4_letRun_7 ?_
  refine jx_iload_n E 0 dX4_letRun_10 rfl ?_
  refine jx_icmp_lt (tgt := 27) E dX4_letRun_11 (by decide) (fun c1 => ?_) (fun c1 => ?_)
  · skip
    refine jx_aload_n E 2 dX4_letRun_27 rfl ?_
    refine jx_get E f_X0 0 (v := vI ((x 0) (21 + 5 * i))) (wx_fou (j := 0) (by decide) (by omega) (by omega)) (by decide) wf_X4_111 rfl dX4_letRun_28 ?_
    refine jx_iconst E dX4_letRun_31 ?_
    refine jx_icmp_eq (tgt := 39) E dX4_letRun_32 (by decide) (fun c2 => ?_) (fun c2 => ?_)
    · skip
      exact jx_vret E hr dX4_letRun_39 (by simp only [flowP]; first | (rw [if_pos (by assumption)]; done) | (rw [if_neg (by omega), if_pos (by assumption), setc_self]; done) | (rw [if_neg (by omega), if_neg (by assumption)]; done))
    · skip
      refine jx_aload_n E 2 dX4_letRun_35 rfl ?_
      refine jx_callVv E [] [] (c_X0_stoop_0 l G a x (i := i) (by omega) hf) mb_X0_stoop mv_X0_stoop wl_X4_105 f_X0 (wx_fou (j := 0) (by decide) (by omega) (by omega)) dX4_letRun_36 ?_
      exact jx_vret E hr dX4_letRun_39 (by simp only [flowP]; first | (rw [if_pos (by assumption)]; done) | (rw [if_neg (by omega), if_pos (by assumption), setc_self]; done) | (rw [if_neg (by omega), if_neg (by assumption)]; done))
  · skip
    refine jx_aload_n E 1 dX4_letRun_14 rfl ?_
    refine jx_dup E dX4_letRun_15 ?_
    refine jx_get E f_X4 1 (v := vI ((x 0) 1)) (wx_town (j := 0) (by decide)) (by decide) wf_X4_15 rfl dX4_letRun_16 ?_
    refine jx_iload_n E 0 dX4_letRun_19 rfl ?_
    refine jx_isub E dX4_letRun_20 ?_
    refine jx_put E f_X4 1 (wx_town (j := 0) (by decide)) (by decide) wf_X4_15 rfl rfl rfl (Nat.le_of_ble_eq_true rfl) (wp_town1 (j := 0) (by decide)) dX4_letRun_21 ?_
    refine jx_goto (tgt := 39) E dX4_letRun_24 (by decide) ?_
    exact jx_vret E hr dX4_letRun_39 (by simp only [flowP]; first | (rw [if_pos (by assumption)]; done) | (rw [if_neg (by omega), if_pos (by assumption), setc_self]; done) | (rw [if_neg (by omega), if_neg (by assumption)]; done))
set_option maxHeartbeats 4000000 in
theorem c_X4_letRun_1 (l : Launch) (G : GT) (a : Nat → Nat) (x : MS) {i cd : Int} (h1 : VV (x 1)) (h2 : 0 ≤ i ∧ i < x 1 4) (h3 : cd = 0 ∨ cd = 1) : CtV l G yX4_letRun cX4_letRun 4 none 3 [.ref (a 13), .ref (a (5 + 12 * 1 + i.toNat)), vI cd] (wsX G a x) (wsX G a (setc x 1 (flowP cd (x 1) i))) := by
  have hF := h1.2.2.2.2.2.2.2
  have h4 := h1.2.2.2.2.1
  obtain ⟨hD, hC⟩ := VV_use h1
  have hf := hF i h2.1 h2.2
  have hu := uses_in (c := cd) hf
  obtain ⟨k1, k2, k3, k4, k5⟩ := id hf
  have v1 := h1.2.1
  refine CtV.of (by decide) (Nat.le_of_ble_eq_true rfl) ?_
  intro p e s m args below meth c A E hr
  refine jx_lv (lv' := [(0, .ref (a 13)), (1, .ref (a (5 + 12 * 1 + i.toNat))), (2, vI cd)]) [0, 1, 2] rfl ?_
  refine jx_aload_n E 1 dX4_letRun_0 rfl ?_
  refine jx_iload_n E 2 dX4_letRun_1 rfl ?_
  refine jx_callVi E [vI cd] [] (c_X0_uses_1 l G a x (cd := cd) (i := i) (by omega) hf (by omega)) mb_X0_uses mv_X0_uses wl_X4_75 f_X0 (wx_fou (j := 1) (by decide) (by omega) (by omega)) dX4_letRun_2 ?_
  refine jx_istore_n E dX4_letRun_5 (by decide) [(3, vI (usesP (x 1) i cd)), (0, .ref (a 13)), (1, .ref (a (5 + 12 * 1 + i.toNat))), (2, vI cd)] rfl ?_
  refine jx_aload_n E 1 dX4_letRun_6 rfl ?_
  refine jx_get E f_X4 1 (v := vI ((x 1) 1)) (wx_town (j := 1) (by decide)) (by decide) wf_X4_15 rfl dX4_letRun_7 ?_
  refine jx_iload_n E 0 dX4_letRun_10 rfl ?_
  refine jx_icmp_lt (tgt := 27) E dX4_letRun_11 (by decide) (fun c1 => ?_) (fun c1 => ?_)
  · skip
    refine jx_aload_n E 2 dX4_letRun_27 rfl ?_
    refine jx_get E f_X0 0 (v := vI ((x 1) (21 + 5 * i))) (wx_fou (j := 1) (by decide) (by omega) (by omega)) (by decide) wf_X4_111 rfl dX4_letRun_28 ?_
    refine jx_iconst E dX4_letRun_31 ?_
    refine jx_icmp_eq (tgt := 39) E dX4_letRun_32 (by decide) (fun c2 => ?_) (fun c2 => ?_)
    · skip
      exact jx_vret E hr dX4_letRun_39 (by simp only [flowP]; first | (rw [if_pos (by assumption)]; done) | (rw [if_neg (by omega), if_pos (by assumption), setc_self]; done) | (rw [if_neg (by omega), if_neg (by assumption)]; done))
    · skip
      refine jx_aload_n E 2 dX4_letRun_35 rfl ?_
      refine jx_callVv E [] [] (c_X0_stoop_1 l G a x (i := i) (by omega) hf) mb_X0_stoop mv_X0_stoop wl_X4_105 f_X0 (wx_fou (j := 1) (by decide) (by omega) (by omega)) dX4_letRun_36 ?_
      exact jx_vret E hr dX4_letRun_39 (by simp only [flowP]; first | (rw [if_pos (by assumption)]; done) | (rw [if_neg (by omega), if_pos (by assumption), setc_self]; done) | (rw [if_neg (by omega), if_neg (by assumption)]; done))
  · skip
    refine jx_aload_n E 1 dX4_letRun_14 rfl ?_
    refine jx_dup E dX4_letRun_15 ?_
    refine jx_get E f_X4 1 (v := vI ((x 1) 1)) (wx_town (j := 1) (by decide)) (by decide) wf_X4_15 rfl dX4_letRun_16 ?_
    refine jx_iload_n E 0 dX4_letRun_19 rfl ?_
    refine jx_isub E dX4_letRun_20 ?_
    refine jx_put E f_X4 1 (wx_town (j := 1) (by decide)) (by decide) wf_X4_15 rfl rfl rfl (Nat.le_of_ble_eq_true rfl) (wp_town1 (j := 1) (by decide)) dX4_letRun_21 ?_
    refine jx_goto (tgt := 39) E dX4_letRun_24 (by decide) ?_
    exact jx_vret E hr dX4_letRun_39 (by simp only [flowP]; first | (rw [if_pos (by assumption)]; done) | (rw [if_neg (by omega), if_pos (by assumption), setc_self]; done) | (rw [if_neg (by omega), if_neg (by assumption)]; done))
set_option maxHeartbeats 4000000 in
theorem c_X4_sendCommittee_0 (l : Launch) (G : GT) (a : Nat → Nat) (x : MS) (h1 : VV (x 0)) : CtV l G yX4_sendCommittee cX4_sendCommittee 2 none 3 [.ref (a 1)] (wsX G a x) (wsX G a (setc x 0 (committeeP (x 0)))) := by
  have hF := h1.2.2.2.2.2.2.2
  have h4 := h1.2.2.2.2.1
  obtain ⟨hD, hC⟩ := VV_use h1
  have b1 := best_in (x 0) 0 1 (x 0 4).toNat
  have b2 := best_in (x 0) 1 0 (x 0 4).toNat
  obtain ⟨-, v1, v2, v3, -⟩ := id h1
  refine CtV.of (by decide) (Nat.le_of_ble_eq_true rfl) ?_
  intro p e s m args below meth c A E hr
  refine jx_lv (lv' := [(0, .ref (a 1))]) [0] rfl ?_
  refine jx_aload_n E 0 dX4_sendCommittee_0 rfl ?_
  refine jx_get E f_X4 1 (v := vI ((x 0) 1)) (wx_town (j := 0) (by decide)) (by decide) wf_X4_15 rfl dX4_sendCommittee_1 ?_
  refine jx_aload_n E 0 dX4_sendCommittee_4 rfl ?_
  refine jx_get E f_X4 2 (v := vI ((x 0) 2)) (wx_town (j := 0) (by decide)) (by decide) wf_X4_18 rfl dX4_sendCommittee_5 ?_
  refine jx_icmp_ge (tgt := 33) E dX4_sendCommittee_8 (by decide) (fun c1 => ?_) (fun c1 => ?_)
  · skip
    refine jx_aload_n E 0 dX4_sendCommittee_33 rfl ?_
    refine jx_get E f_X4 1 (v := vI ((x 0) 1)) (wx_town (j := 0) (by decide)) (by decide) wf_X4_15 rfl dX4_sendCommittee_34 ?_
    refine jx_aload_n E 0 dX4_sendCommittee_37 rfl ?_
    refine jx_get E f_X4 3 (v := vI ((x 0) 3)) (wx_town (j := 0) (by decide)) (by decide) wf_X4_21 rfl dX4_sendCommittee_38 ?_
    refine jx_icmp_lt (tgt := 64) E dX4_sendCommittee_41 (by decide) (fun c2 => ?_) (fun c2 => ?_)
    · skip
      exact jx_vret E hr dX4_sendCommittee_64 (by simp only [committeeP]; first | (rw [if_pos (by omega), if_pos (by omega), setc_self]; done) | (rw [if_pos (by omega), if_neg (by omega)]; done) | (rw [if_neg (by omega), if_pos (by omega), if_pos (by omega), setc_self]; done) | (rw [if_neg (by omega), if_pos (by omega), if_neg (by omega)]; done) | (rw [if_neg (by omega), if_neg (by omega), setc_self]; done))
    · skip
      refine jx_aload_n E 0 dX4_sendCommittee_44 rfl ?_
      refine jx_callVi E [] [] (c_X4_givesWayLeast_0 l G a x  (by omega)) mb_X4_givesWayLeast mv_X4_givesWayLeast wl_X4_108 f_X4 (wx_town (j := 0) (by decide)) dX4_sendCommittee_45 ?_
      refine jx_istore_n E dX4_sendCommittee_48 (by decide) [(1, vI (bestP (x 0) 1 0 ((x 0) 4).toNat)), (0, .ref (a 1))] rfl ?_
      refine jx_iload_n E 0 dX4_sendCommittee_49 rfl ?_
      refine jx_iconst E dX4_sendCommittee_50 ?_
      refine jx_icmp_eq (tgt := 64) E dX4_sendCommittee_51 (by decide) (fun c3 => ?_) (fun c3 => ?_)
      · skip
        exact jx_vret E hr dX4_sendCommittee_64 (by simp only [committeeP]; first | (rw [if_pos (by omega), if_pos (by omega), setc_self]; done) | (rw [if_pos (by omega), if_neg (by omega)]; done) | (rw [if_neg (by omega), if_pos (by omega), if_pos (by omega), setc_self]; done) | (rw [if_neg (by omega), if_pos (by omega), if_neg (by omega)]; done) | (rw [if_neg (by omega), if_neg (by omega), setc_self]; done))
      · skip
        refine jx_aload_n E 1 dX4_sendCommittee_54 rfl ?_
        refine jx_get E f_X4 6 (v := .ref (a 4)) (wx_town (j := 0) (by decide)) (by decide) wf_X4_33 rfl dX4_sendCommittee_55 ?_
        refine jx_iload_n E 0 dX4_sendCommittee_58 rfl ?_
        refine jx_aald E 2 (y := a (5 + 12 * 0 + (bestP (x 0) 1 0 ((x 0) 4).toNat).toNat)) (wx_row (j := 0) (by decide)) rfl rfl (by omega) (by omega) (by decide) dX4_sendCommittee_59 ?_
        refine jx_iconst E dX4_sendCommittee_60 ?_
        refine jx_put E f_X0 2 (wx_fou (j := 0) (by decide) (by omega) (by omega)) (by decide) wf_X4_65 rfl rfl rfl (Nat.le_of_ble_eq_true rfl) (wp_fou2 (j := 0) (by decide) (by omega) (by omega)) dX4_sendCommittee_61 ?_
        exact jx_vret E hr dX4_sendCommittee_64 (by simp only [committeeP]; first | (rw [if_pos (by omega), if_pos (by omega), setc_self]; done) | (rw [if_pos (by omega), if_neg (by omega)]; done) | (rw [if_neg (by omega), if_pos (by omega), if_pos (by omega), setc_self]; done) | (rw [if_neg (by omega), if_pos (by omega), if_neg (by omega)]; done) | (rw [if_neg (by omega), if_neg (by omega), setc_self]; done))
  · skip
    refine jx_aload_n E 0 dX4_sendCommittee_11 rfl ?_
    refine jx_callVi E [] [] (c_X4_givesWayMost_0 l G a x  (by omega)) mb_X4_givesWayMost mv_X4_givesWayMost wl_X4_102 f_X4 (wx_town (j := 0) (by decide)) dX4_sendCommittee_12 ?_
    refine jx_istore_n E dX4_sendCommittee_15 (by decide) [(1, vI (bestP (x 0) 0 1 ((x 0) 4).toNat)), (0, .ref (a 1))] rfl ?_
    refine jx_iload_n E 0 dX4_sendCommittee_16 rfl ?_
    refine jx_iconst E dX4_sendCommittee_17 ?_
    refine jx_icmp_eq (tgt := 30) E dX4_sendCommittee_18 (by decide) (fun c4 => ?_) (fun c4 => ?_)
    · skip
      refine jx_goto (tgt := 64) E dX4_sendCommittee_30 (by decide) ?_
      exact jx_vret E hr dX4_sendCommittee_64 (by simp only [committeeP]; first | (rw [if_pos (by omega), if_pos (by omega), setc_self]; done) | (rw [if_pos (by omega), if_neg (by omega)]; done) | (rw [if_neg (by omega), if_pos (by omega), if_pos (by omega), setc_self]; done) | (rw [if_neg (by omega), if_pos (by omega), if_neg (by omega)]; done) | (rw [if_neg (by omega), if_neg (by omega), setc_self]; done))
    · skip
      refine jx_aload_n E 1 dX4_sendCommittee_21 rfl ?_
      refine jx_get E f_X4 6 (v := .ref (a 4)) (wx_town (j := 0) (by decide)) (by decide) wf_X4_33 rfl dX4_sendCommittee_22 ?_
      refine jx_iload_n E 0 dX4_sendCommittee_25 rfl ?_
      refine jx_aald E 2 (y := a (5 + 12 * 0 + (bestP (x 0) 0 1 ((x 0) 4).toNat).toNat)) (wx_row (j := 0) (by decide)) rfl rfl (by omega) (by omega) (by decide) dX4_sendCommittee_26 ?_
      refine jx_callVv E [] [] (c_X0_stoop_0 l G a x (i := bestP (x 0) 0 1 ((x 0) 4).toNat) (by omega) (hF _ (by omega) (by omega))) mb_X0_stoop mv_X0_stoop wl_X4_105 f_X0 (wx_fou (j := 0) (by decide) (by omega) (by omega)) dX4_sendCommittee_27 ?_
      refine jx_goto (tgt := 64) E dX4_sendCommittee_30 (by decide) ?_
      exact jx_vret E hr dX4_sendCommittee_64 (by simp only [committeeP]; first | (rw [if_pos (by omega), if_pos (by omega), setc_self]; done) | (rw [if_pos (by omega), if_neg (by omega)]; done) | (rw [if_neg (by omega), if_pos (by omega), if_pos (by omega), setc_self]; done) | (rw [if_neg (by omega), if_pos (by omega), if_neg (by omega)]; done) | (rw [if_neg (by omega), if_neg (by omega), setc_self]; done))
set_option maxHeartbeats 4000000 in
theorem c_X4_sendCommittee_1 (l : Launch) (G : GT) (a : Nat → Nat) (x : MS) (h1 : VV (x 1)) : CtV l G yX4_sendCommittee cX4_sendCommittee 2 none 3 [.ref (a 13)] (wsX G a x) (wsX G a (setc x 1 (committeeP (x 1)))) := by
  have hF := h1.2.2.2.2.2.2.2
  have h4 := h1.2.2.2.2.1
  obtain ⟨hD, hC⟩ := VV_use h1
  have b1 := best_in (x 1) 0 1 (x 1 4).toNat
  have b2 := best_in (x 1) 1 0 (x 1 4).toNat
  obtain ⟨-, v1, v2, v3, -⟩ := id h1
  refine CtV.of (by decide) (Nat.le_of_ble_eq_true rfl) ?_
  intro p e s m args below meth c A E hr
  refine jx_lv (lv' := [(0, .ref (a 13))]) [0] rfl ?_
  refine jx_aload_n E 0 dX4_sendCommittee_0 rfl ?_
  refine jx_get E f_X4 1 (v := vI ((x 1) 1)) (wx_town (j := 1) (by decide)) (by decide) wf_X4_15 rfl dX4_sendCommittee_1 ?_
  refine jx_aload_n E 0 dX4_sendCommittee_4 rfl ?_
  refine jx_get E f_X4 2 (v := vI ((x 1) 2)) (wx_town (j := 1) (by decide)) (by decide) wf_X4_18 rfl dX4_sendCommittee_5 ?_
  refine jx_icmp_ge (tgt := 33) E dX4_sendCommittee_8 (by decide) (fun c1 => ?_) (fun c1 => ?_)
  · skip
    refine jx_aload_n E 0 dX4_sendCommittee_33 rfl ?_
    refine jx_get E f_X4 1 (v := vI ((x 1) 1)) (wx_town (j := 1) (by decide)) (by decide) wf_X4_15 rfl dX4_sendCommittee_34 ?_
    refine jx_aload_n E 0 dX4_sendCommittee_37 rfl ?_
    refine jx_get E f_X4 3 (v := vI ((x 1) 3)) (wx_town (j := 1) (by decide)) (by decide) wf_X4_21 rfl dX4_sendCommittee_38 ?_
    refine jx_icmp_lt (tgt := 64) E dX4_sendCommittee_41 (by decide) (fun c2 => ?_) (fun c2 => ?_)
    · skip
      exact jx_vret E hr dX4_sendCommittee_64 (by simp only [committeeP]; first | (rw [if_pos (by omega), if_pos (by omega), setc_self]; done) | (rw [if_pos (by omega), if_neg (by omega)]; done) | (rw [if_neg (by omega), if_pos (by omega), if_pos (by omega), setc_self]; done) | (rw [if_neg (by omega), if_pos (by omega), if_neg (by omega)]; done) | (rw [if_neg (by omega), if_neg (by omega), setc_self]; done))
    · skip
      refine jx_aload_n E 0 dX4_sendCommittee_44 rfl ?_
      refine jx_callVi E [] [] (c_X4_givesWayLeast_1 l G a x  (by omega)) mb_X4_givesWayLeast mv_X4_givesWayLeast wl_X4_108 f_X4 (wx_town (j := 1) (by decide)) dX4_sendCommittee_45 ?_
      refine jx_istore_n E dX4_sendCommittee_48 (by decide) [(1, vI (bestP (x 1) 1 0 ((x 1) 4).toNat)), (0, .ref (a 13))] rfl ?_
      refine jx_iload_n E 0 dX4_sendCommittee_49 rfl ?_
      refine jx_iconst E dX4_sendCommittee_50 ?_
      refine jx_icmp_eq (tgt := 64) E dX4_sendCommittee_51 (by decide) (fun c3 => ?_) (fun c3 => ?_)
      · skip
        exact jx_vret E hr dX4_sendCommittee_64 (by simp only [committeeP]; first | (rw [if_pos (by omega), if_pos (by omega), setc_self]; done) | (rw [if_pos (by omega), if_neg (by omega)]; done) | (rw [if_neg (by omega), if_pos (by omega), if_pos (by omega), setc_self]; done) | (rw [if_neg (by omega), if_pos (by omega), if_neg (by omega)]; done) | (rw [if_neg (by omega), if_neg (by omega), setc_self]; done))
      · skip
        refine jx_aload_n E 1 dX4_sendCommittee_54 rfl ?_
        refine jx_get E f_X4 6 (v := .ref (a 16)) (wx_town (j := 1) (by decide)) (by decide) wf_X4_33 rfl dX4_sendCommittee_55 ?_
        refine jx_iload_n E 0 dX4_sendCommittee_58 rfl ?_
        refine jx_aald E 2 (y := a (5 + 12 * 1 + (bestP (x 1) 1 0 ((x 1) 4).toNat).toNat)) (wx_row (j := 1) (by decide)) rfl rfl (by omega) (by omega) (by decide) dX4_sendCommittee_59 ?_
        refine jx_iconst E dX4_sendCommittee_60 ?_
        refine jx_put E f_X0 2 (wx_fou (j := 1) (by decide) (by omega) (by omega)) (by decide) wf_X4_65 rfl rfl rfl (Nat.le_of_ble_eq_true rfl) (wp_fou2 (j := 1) (by decide) (by omega) (by omega)) dX4_sendCommittee_61 ?_
        exact jx_vret E hr dX4_sendCommittee_64 (by simp only [committeeP]; first | (rw [if_pos (by omega), if_pos (by omega), setc_self]; done) | (rw [if_pos (by omega), if_neg (by omega)]; done) | (rw [if_neg (by omega), if_pos (by omega), if_pos (by omega), setc_self]; done) | (rw [if_neg (by omega), if_pos (by omega), if_neg (by omega)]; done) | (rw [if_neg (by omega), if_neg (by omega), setc_self]; done))
  · skip
    refine jx_aload_n E 0 dX4_sendCommittee_11 rfl ?_
    refine jx_callVi E [] [] (c_X4_givesWayMost_1 l G a x  (by omega)) mb_X4_givesWayMost mv_X4_givesWayMost wl_X4_102 f_X4 (wx_town (j := 1) (by decide)) dX4_sendCommittee_12 ?_
    refine jx_istore_n E dX4_sendCommittee_15 (by decide) [(1, vI (bestP (x 1) 0 1 ((x 1) 4).toNat)), (0, .ref (a 13))] rfl ?_
    refine jx_iload_n E 0 dX4_sendCommittee_16 rfl ?_
    refine jx_iconst E dX4_sendCommittee_17 ?_
    refine jx_icmp_eq (tgt := 30) E dX4_sendCommittee_18 (by decide) (fun c4 => ?_) (fun c4 => ?_)
    · skip
      refine jx_goto (tgt := 64) E dX4_sendCommittee_30 (by decide) ?_
      exact jx_vret E hr dX4_sendCommittee_64 (by simp only [committeeP]; first | (rw [if_pos (by omega), if_pos (by omega), setc_self]; done) | (rw [if_pos (by omega), if_neg (by omega)]; done) | (rw [if_neg (by omega), if_pos (by omega), if_pos (by omega), setc_self]; done) | (rw [if_neg (by omega), if_pos (by omega), if_neg (by omega)]; done) | (rw [if_neg (by omega), if_neg (by omega), setc_self]; done))
    · skip
      refine jx_aload_n E 1 dX4_sendCommittee_21 rfl ?_
      refine jx_get E f_X4 6 (v := .ref (a 16)) (wx_town (j := 1) (by decide)) (by decide) wf_X4_33 rfl dX4_sendCommittee_22 ?_
      refine jx_iload_n E 0 dX4_sendCommittee_25 rfl ?_
      refine jx_aald E 2 (y := a (5 + 12 * 1 + (bestP (x 1) 0 1 ((x 1) 4).toNat).toNat)) (wx_row (j := 1) (by decide)) rfl rfl (by omega) (by omega) (by decide) dX4_sendCommittee_26 ?_
      refine jx_callVv E [] [] (c_X0_stoop_1 l G a x (i := bestP (x 1) 0 1 ((x 1) 4).toNat) (by omega) (hF _ (by omega) (by omega))) mb_X0_stoop mv_X0_stoop wl_X4_105 f_X0 (wx_fou (j := 1) (by decide) (by omega) (by omega)) dX4_sendCommittee_27 ?_
      refine jx_goto (tgt := 64) E dX4_sendCommittee_30 (by decide) ?_
      exact jx_vret E hr dX4_sendCommittee_64 (by simp only [committeeP]; first | (rw [if_pos (by omega), if_pos (by omega), setc_self]; done) | (rw [if_pos (by omega), if_neg (by omega)]; done) | (rw [if_neg (by omega), if_pos (by omega), if_pos (by omega), setc_self]; done) | (rw [if_neg (by omega), if_pos (by omega), if_neg (by omega)]; done) | (rw [if_neg (by omega), if_neg (by omega), setc_self]; done))
set_option maxHeartbeats 4000000 in
theorem c_X4_passDay_0 (l : Launch) (G : GT) (a : Nat → Nat) (x : MS) (h1 : VV (x 0)) : CtV l G yX4_passDay cX4_passDay 3 none 4 [.ref (a 1)] (wsX G a x) (wsX G a (setc x 0 (dayP (x 0)))) := by
  have hF := h1.2.2.2.2.2.2.2
  have h4 := h1.2.2.2.2.1
  obtain ⟨hD, hC⟩ := VV_use h1
  have hw := week_in h1
  have h5 := h1.2.2.2.2.2.1 _ hw.1 hw.2
  have v1 := h1.2.1
  have v0 := h1.1
  have w0 := VT_rained h1
  have w1 := VT_committee w0
  have f1 : FR (x 0) (committeeP (rainedP (x 0))) := (FR_rained (x 0)).tr w1.2
  have e1 := f1.2.2.2.1
  have hcd := cold_in (x 0)
  refine CtV.of (by decide) (Nat.le_of_ble_eq_true rfl) ?_
  intro p e s m args below meth c A E hr
  refine jx_lv (lv' := [(0, .ref (a 1))]) [0] rfl ?_
  refine jx_aload_n E 0 dX4_passDay_0 rfl ?_
  refine jx_callVi E [] [] (c_X4_isCold_0 l G a x  hD hC) mb_X4_isCold mv_X4_isCold wl_X4_71 f_X4 (wx_town (j := 0) (by decide)) dX4_passDay_1 ?_
  refine jx_istore_n E dX4_passDay_4 (by decide) [(1, vI (coldP (x 0))), (0, .ref (a 1))] rfl ?_
  refine jx_aload_n E 1 dX4_passDay_5 rfl ?_
  refine jx_sipush E dX4_passDay_6 ?_
  refine jx_aload_n E 1 dX4_passDay_9 rfl ?_
  refine jx_get E f_X4 1 (v := vI ((x 0) 1)) (wx_town (j := 0) (by decide)) (by decide) wf_X4_15 rfl dX4_passDay_10 ?_
  refine jx_aload_n E 1 dX4_passDay_13 rfl ?_
  refine jx_get E f_X4 4 (v := .ref (a 2)) (wx_town (j := 0) (by decide)) (by decide) wf_X4_24 rfl dX4_passDay_14 ?_
  refine jx_aload_n E 1 dX4_passDay_17 rfl ?_
  refine jx_callVi E [] [.ref (a 2), vI ((x 0) 1), vI 9999, .ref (a 1)] (c_X4_weekOfDay_0 l G a x  hD) mb_X4_weekOfDay mv_X4_weekOfDay wl_X4_61 f_X4 (wx_town (j := 0) (by decide)) dX4_passDay_18 ?_
  refine jx_iald E (v := (x 0) (5 + (weekP (x 0)))) (wx_rain (j := 0) (by decide)) (rowI_at (by omega) (by omega)) (by omega) (by omega) (by decide) dX4_passDay_21 ?_
  refine jx_iadd E dX4_passDay_22 ?_
  refine jx_min E wl_X4_88 mm_min dX4_passDay_23 ?_
  refine jx_put E f_X4 1 (wx_town (j := 0) (by decide)) (by decide) wf_X4_15 rfl rfl rfl (Nat.le_of_ble_eq_true rfl) (wp_town1 (j := 0) (by decide)) dX4_passDay_26 ?_
  refine jx_eq (ws' := wsX G a (setc x 0 (rainedP (x 0)))) rfl ?_
  refine jx_aload_n E 1 dX4_passDay_29 rfl ?_
  refine jx_callVv E [] [] (c_X4_sendCommittee_0 l G a (setc x 0 (rainedP (x 0)))  w0) mb_X4_sendCommittee mv_X4_sendCommittee wl_X4_91 f_X4 (wx_town (j := 0) (by decide)) dX4_passDay_30 ?_
  refine jx_eq (ws' := wsX G a (setc x 0 (committeeP (rainedP (x 0))))) (congrArg (wsX G a) (by first | rfl | (rw [setc_setc]; rfl) | exact setc_in _ _ _ _ (by decide) | exact setc_in2 _ _ _ _ _ (by decide) (by decide) | (simp only [setc_setc, setc_at]; done) | (simp only [setc_setc, setc_at]; rfl) | (funext d; simp only [setc_app]; (repeat' split) <;> first | rfl | omega))) ?_
  refine jx_iconst E dX4_passDay_33 ?_
  refine jx_istore_n E dX4_passDay_34 (by decide) [(2, vI 0), (1, vI (coldP (x 0))), (0, .ref (a 1))] rfl ?_
  have LP35 : ∀ (n2 : Nat) (k : Nat), ((k : Int) ≤ x 0 4) → (x 0 4 - (k : Int) < n2) → JX p l e (rmL 4) s m args below meth c 3 G A 0 0 (QV below args s G A (wsX G a (setc x 0 (dayP (x 0))))) (wsX G a (setc x 0 (flowsP (coldP (x 0)) (committeeP (rainedP (x 0))) k))) 35 [(2, vI (k : Int)), (1, vI (coldP (x 0))), (0, .ref (a 1))] [] := by
    intro n2
    induction n2 with
    | zero => intro k q1 q2; exfalso; omega
    | succ n2 ih =>
      intro k q1 q2
      have hk := VT_flows (c := coldP (x 0)) w1.1 k (by rw [e1]; omega)
      have hk4 := (f1.tr hk.2).2.2.2.1
      refine jx_iload_n E 0 dX4_passDay_35 rfl ?_
      refine jx_aload_n E 2 dX4_passDay_36 rfl ?_
      refine jx_get E f_X4 7 (v := vI ((flowsP (coldP (x 0)) (committeeP (rainedP (x 0))) k) 4)) (wx_town (j := 0) (by decide)) (by decide) wf_X4_37 (by first | rfl | (simp only [setc_at, List.getElem?_cons_zero, List.getElem?_cons_succ]; done) | (simp [setc_at]; done)) dX4_passDay_37 ?_
      refine jx_icmp_ge (tgt := 60) E dX4_passDay_40 (by decide) (fun c1 => ?_) (fun c1 => ?_)
      · skip
        refine jx_iconst E dX4_passDay_60 ?_
        refine jx_istore_n E dX4_passDay_61 (by decide) [(2, vI 0), (1, vI (coldP (x 0))), (0, .ref (a 1))] rfl ?_
        have LP62 : ∀ (n2 : Nat) (k : Nat), ((k : Int) ≤ x 0 4) → (x 0 4 - (k : Int) < n2) → JX p l e (rmL 4) s m args below meth c 3 G A 0 0 (QV below args s G A (wsX G a (setc x 0 (dayP (x 0))))) (wsX G a (setc x 0 (gainsAllP (coldP (x 0)) (flowsP (coldP (x 0)) (committeeP (rainedP (x 0))) (x 0 4).toNat) k))) 62 [(2, vI (k : Int)), (1, vI (coldP (x 0))), (0, .ref (a 1))] [] := by
          intro n2
          induction n2 with
          | zero => intro k q1 q2; exfalso; omega
          | succ n2 ih =>
            intro k q1 q2
            have hz := VT_flows (c := coldP (x 0)) w1.1 (x 0 4).toNat (by rw [e1]; omega)
            have hk := VT_gains (c := coldP (x 0)) hz.1 k
            have hk4 := ((f1.tr hz.2).tr hk.2).2.2.2.1
            have hd0 := ((f1.tr hz.2).tr hk.2).1
            refine jx_iload_n E 0 dX4_passDay_62 rfl ?_
            refine jx_aload_n E 2 dX4_passDay_63 rfl ?_
            refine jx_get E f_X4 7 (v := vI ((gainsAllP (coldP (x 0)) (flowsP (coldP (x 0)) (committeeP (rainedP (x 0))) (x 0 4).toNat) k) 4)) (wx_town (j := 0) (by decide)) (by decide) wf_X4_37 (by first | rfl | (simp only [setc_at, List.getElem?_cons_zero, List.getElem?_cons_succ]; done) | (simp [setc_at]; done)) dX4_passDay_64 ?_
            refine jx_icmp_ge (tgt := 86) E dX4_passDay_67 (by decide) (fun c2 => ?_) (fun c2 => ?_)
            · skip
              refine jx_aload_n E 2 dX4_passDay_86 rfl ?_
              refine jx_dup E dX4_passDay_87 ?_
              refine jx_get E f_X4 0 (v := vI ((gainsAllP (coldP (x 0)) (flowsP (coldP (x 0)) (committeeP (rainedP (x 0))) (x 0 4).toNat) k) 0)) (wx_town (j := 0) (by decide)) (by decide) wf_X4_9 (by first | rfl | (simp only [setc_at, List.getElem?_cons_zero, List.getElem?_cons_succ]; done) | (simp [setc_at]; done)) dX4_passDay_88 ?_
              refine jx_iconst E dX4_passDay_91 ?_
              refine jx_iadd E dX4_passDay_92 ?_
              refine jx_put E f_X4 0 (wx_town (j := 0) (by decide)) (by decide) wf_X4_9 rfl rfl rfl (Nat.le_of_ble_eq_true rfl) (wp_town0 (j := 0) (by decide)) dX4_passDay_93 ?_
              refine jx_eq (ws' := wsX G a (setc x 0 (updI (gainsAllP (coldP (x 0)) (flowsP (coldP (x 0)) (committeeP (rainedP (x 0))) (x 0 4).toNat) k) 0 (((gainsAllP (coldP (x 0)) (flowsP (coldP (x 0)) (committeeP (rainedP (x 0))) (x 0 4).toNat) k) 0) + 1)))) (congrArg (wsX G a) (by first | rfl | (rw [setc_setc]; rfl) | exact setc_in _ _ _ _ (by decide) | exact setc_in2 _ _ _ _ _ (by decide) (by decide) | (simp only [setc_setc, setc_at]; done) | (simp only [setc_setc, setc_at]; rfl) | (funext d; simp only [setc_app]; (repeat' split) <;> first | rfl | omega))) ?_
              exact jx_vret E hr dX4_passDay_96 (by rw [hd0, show k = (x 0 4).toNat by omega]; rfl)
            · skip
              refine jx_aload_n E 2 dX4_passDay_70 rfl ?_
              refine jx_get E f_X4 6 (v := .ref (a 4)) (wx_town (j := 0) (by decide)) (by decide) wf_X4_33 rfl dX4_passDay_71 ?_
              refine jx_iload_n E 0 dX4_passDay_74 rfl ?_
              refine jx_aald E 2 (y := a (5 + 12 * 0 + (k : Int).toNat)) (wx_row (j := 0) (by decide)) rfl rfl (by omega) (by omega) (by decide) dX4_passDay_75 ?_
              refine jx_iload_n E 1 dX4_passDay_76 rfl ?_
              refine jx_callVv E [vI (coldP (x 0))] [] (c_X0_endDay_0 l G a (setc x 0 (gainsAllP (coldP (x 0)) (flowsP (coldP (x 0)) (committeeP (rainedP (x 0))) (x 0 4).toNat) k)) (cd := coldP (x 0)) (i := (k : Int)) (by omega) (hk.1.2.2.2.2.2.2.2 _ (by omega) (by rw [hk4]; omega)) hcd) mb_X0_endDay mv_X0_endDay wl_X4_98 f_X0 (wx_fou (j := 0) (by decide) (by omega) (by omega)) dX4_passDay_77 ?_
              refine jx_eq (ws' := wsX G a (setc x 0 (gainP (coldP (x 0)) (gainsAllP (coldP (x 0)) (flowsP (coldP (x 0)) (committeeP (rainedP (x 0))) (x 0 4).toNat) k) (k : Int)))) (congrArg (wsX G a) (by first | rfl | (rw [setc_setc]; rfl) | exact setc_in _ _ _ _ (by decide) | exact setc_in2 _ _ _ _ _ (by decide) (by decide) | (simp only [setc_setc, setc_at]; done) | (simp only [setc_setc, setc_at]; rfl) | (funext d; simp only [setc_app]; (repeat' split) <;> first | rfl | omega))) ?_
              refine jx_iinc E 0 dX4_passDay_80 rfl (by decide) [(2, vI ((k : Int) + 1)), (1, vI (coldP (x 0))), (0, .ref (a 1))] rfl ?_
              refine jx_goto (tgt := 62) E dX4_passDay_83 (by decide) ?_
              exact ih (k + 1) (by omega) (by omega)
        rw [show k = (x 0 4).toNat by omega]
        exact LP62 9 0 (by omega) (by omega)
      · skip
        refine jx_aload_n E 2 dX4_passDay_43 rfl ?_
        refine jx_aload_n E 2 dX4_passDay_44 rfl ?_
        refine jx_get E f_X4 6 (v := .ref (a 4)) (wx_town (j := 0) (by decide)) (by decide) wf_X4_33 rfl dX4_passDay_45 ?_
        refine jx_iload_n E 0 dX4_passDay_48 rfl ?_
        refine jx_aald E 2 (y := a (5 + 12 * 0 + (k : Int).toNat)) (wx_row (j := 0) (by decide)) rfl rfl (by omega) (by omega) (by decide) dX4_passDay_49 ?_
        refine jx_iload_n E 1 dX4_passDay_50 rfl ?_
        refine jx_callVv E [.ref (a (5 + 12 * 0 + (k : Int).toNat)), vI (coldP (x 0))] [] (c_X4_letRun_0 l G a (setc x 0 (flowsP (coldP (x 0)) (committeeP (rainedP (x 0))) k)) (i := (k : Int)) (cd := coldP (x 0)) hk.1 (show 0 ≤ (k : Int) ∧ (k : Int) < flowsP (coldP (x 0)) (committeeP (rainedP (x 0))) k 4 by rw [hk4]; omega) hcd) mb_X4_letRun mv_X4_letRun wl_X4_94 f_X4 (wx_town (j := 0) (by decide)) dX4_passDay_51 ?_
        refine jx_eq (ws' := wsX G a (setc x 0 (flowP (coldP (x 0)) (flowsP (coldP (x 0)) (committeeP (rainedP (x 0))) k) (k : Int)))) (congrArg (wsX G a) (by first | rfl | (rw [setc_setc]; rfl) | exact setc_in _ _ _ _ (by decide) | exact setc_in2 _ _ _ _ _ (by decide) (by decide) | (simp only [setc_setc, setc_at]; done) | (simp only [setc_setc, setc_at]; rfl) | (funext d; simp only [setc_app]; (repeat' split) <;> first | rfl | omega))) ?_
        refine jx_iinc E 0 dX4_passDay_54 rfl (by decide) [(2, vI ((k : Int) + 1)), (1, vI (coldP (x 0))), (0, .ref (a 1))] rfl ?_
        refine jx_goto (tgt := 35) E dX4_passDay_57 (by decide) ?_
        exact ih (k + 1) (by omega) (by omega)
  exact LP35 9 0 (by omega) (by omega)
set_option maxHeartbeats 4000000 in
theorem c_X4_passDay_1 (l : Launch) (G : GT) (a : Nat → Nat) (x : MS) (h1 : VV (x 1)) : CtV l G yX4_passDay cX4_passDay 3 none 4 [.ref (a 13)] (wsX G a x) (wsX G a (setc x 1 (dayP (x 1)))) := by
  have hF := h1.2.2.2.2.2.2.2
  have h4 := h1.2.2.2.2.1
  obtain ⟨hD, hC⟩ := VV_use h1
  have hw := week_in h1
  have h5 := h1.2.2.2.2.2.1 _ hw.1 hw.2
  have v1 := h1.2.1
  have v0 := h1.1
  have w0 := VT_rained h1
  have w1 := VT_committee w0
  have f1 : FR (x 1) (committeeP (rainedP (x 1))) := (FR_rained (x 1)).tr w1.2
  have e1 := f1.2.2.2.1
  have hcd := cold_in (x 1)
  refine CtV.of (by decide) (Nat.le_of_ble_eq_true rfl) ?_
  intro p e s m args below meth c A E hr
  refine jx_lv (lv' := [(0, .ref (a 13))]) [0] rfl ?_
  refine jx_aload_n E 0 dX4_passDay_0 rfl ?_
  refine jx_callVi E [] [] (c_X4_isCold_1 l G a x  hD hC) mb_X4_isCold mv_X4_isCold wl_X4_71 f_X4 (wx_town (j := 1) (by decide)) dX4_passDay_1 ?_
  refine jx_istore_n E dX4_passDay_4 (by decide) [(1, vI (coldP (x 1))), (0, .ref (a 13))] rfl ?_
  refine jx_aload_n E 1 dX4_passDay_5 rfl ?_
  refine jx_sipush E dX4_passDay_6 ?_
  refine jx_aload_n E 1 dX4_passDay_9 rfl ?_
  refine jx_get E f_X4 1 (v := vI ((x 1) 1)) (wx_town (j := 1) (by decide)) (by decide) wf_X4_15 rfl dX4_passDay_10 ?_
  refine jx_aload_n E 1 dX4_passDay_13 rfl ?_
  refine jx_get E f_X4 4 (v := .ref (a 14)) (wx_town (j := 1) (by decide)) (by decide) wf_X4_24 rfl dX4_passDay_14 ?_
  refine jx_aload_n E 1 dX4_passDay_17 rfl ?_
  refine jx_callVi E [] [.ref (a 14), vI ((x 1) 1), vI 9999, .ref (a 13)] (c_X4_weekOfDay_1 l G a x  hD) mb_X4_weekOfDay mv_X4_weekOfDay wl_X4_61 f_X4 (wx_town (j := 1) (by decide)) dX4_passDay_18 ?_
  refine jx_iald E (v := (x 1) (5 + (weekP (x 1)))) (wx_rain (j := 1) (by decide)) (rowI_at (by omega) (by omega)) (by omega) (by omega) (by decide) dX4_passDay_21 ?_
  refine jx_iadd E dX4_passDay_22 ?_
  refine jx_min E wl_X4_88 mm_min dX4_passDay_23 ?_
  refine jx_put E f_X4 1 (wx_town (j := 1) (by decide)) (by decide) wf_X4_15 rfl rfl rfl (Nat.le_of_ble_eq_true rfl) (wp_town1 (j := 1) (by decide)) dX4_passDay_26 ?_
  refine jx_eq (ws' := wsX G a (setc x 1 (rainedP (x 1)))) rfl ?_
  refine jx_aload_n E 1 dX4_passDay_29 rfl ?_
  refine jx_callVv E [] [] (c_X4_sendCommittee_1 l G a (setc x 1 (rainedP (x 1)))  w0) mb_X4_sendCommittee mv_X4_sendCommittee wl_X4_91 f_X4 (wx_town (j := 1) (by decide)) dX4_passDay_30 ?_
  refine jx_eq (ws' := wsX G a (setc x 1 (committeeP (rainedP (x 1))))) (congrArg (wsX G a) (by first | rfl | (rw [setc_setc]; rfl) | exact setc_in _ _ _ _ (by decide) | exact setc_in2 _ _ _ _ _ (by decide) (by decide) | (simp only [setc_setc, setc_at]; done) | (simp only [setc_setc, setc_at]; rfl) | (funext d; simp only [setc_app]; (repeat' split) <;> first | rfl | omega))) ?_
  refine jx_iconst E dX4_passDay_33 ?_
  refine jx_istore_n E dX4_passDay_34 (by decide) [(2, vI 0), (1, vI (coldP (x 1))), (0, .ref (a 13))] rfl ?_
  have LP35 : ∀ (n2 : Nat) (k : Nat), ((k : Int) ≤ x 1 4) → (x 1 4 - (k : Int) < n2) → JX p l e (rmL 4) s m args below meth c 3 G A 0 0 (QV below args s G A (wsX G a (setc x 1 (dayP (x 1))))) (wsX G a (setc x 1 (flowsP (coldP (x 1)) (committeeP (rainedP (x 1))) k))) 35 [(2, vI (k : Int)), (1, vI (coldP (x 1))), (0, .ref (a 13))] [] := by
    intro n2
    induction n2 with
    | zero => intro k q1 q2; exfalso; omega
    | succ n2 ih =>
      intro k q1 q2
      have hk := VT_flows (c := coldP (x 1)) w1.1 k (by rw [e1]; omega)
      have hk4 := (f1.tr hk.2).2.2.2.1
      refine jx_iload_n E 0 dX4_passDay_35 rfl ?_
      refine jx_aload_n E 2 dX4_passDay_36 rfl ?_
      refine jx_get E f_X4 7 (v := vI ((flowsP (coldP (x 1)) (committeeP (rainedP (x 1))) k) 4)) (wx_town (j := 1) (by decide)) (by decide) wf_X4_37 (by first | rfl | (simp only [setc_at, List.getElem?_cons_zero, List.getElem?_cons_succ]; done) | (simp [setc_at]; done)) dX4_passDay_37 ?_
      refine jx_icmp_ge (tgt := 60) E dX4_passDay_40 (by decide) (fun c1 => ?_) (fun c1 => ?_)
      · skip
        refine jx_iconst E dX4_passDay_60 ?_
        refine jx_istore_n E dX4_passDay_61 (by decide) [(2, vI 0), (1, vI (coldP (x 1))), (0, .ref (a 13))] rfl ?_
        have LP62 : ∀ (n2 : Nat) (k : Nat), ((k : Int) ≤ x 1 4) → (x 1 4 - (k : Int) < n2) → JX p l e (rmL 4) s m args below meth c 3 G A 0 0 (QV below args s G A (wsX G a (setc x 1 (dayP (x 1))))) (wsX G a (setc x 1 (gainsAllP (coldP (x 1)) (flowsP (coldP (x 1)) (committeeP (rainedP (x 1))) (x 1 4).toNat) k))) 62 [(2, vI (k : Int)), (1, vI (coldP (x 1))), (0, .ref (a 13))] [] := by
          intro n2
          induction n2 with
          | zero => intro k q1 q2; exfalso; omega
          | succ n2 ih =>
            intro k q1 q2
            have hz := VT_flows (c := coldP (x 1)) w1.1 (x 1 4).toNat (by rw [e1]; omega)
            have hk := VT_gains (c := coldP (x 1)) hz.1 k
            have hk4 := ((f1.tr hz.2).tr hk.2).2.2.2.1
            have hd0 := ((f1.tr hz.2).tr hk.2).1
            refine jx_iload_n E 0 dX4_passDay_62 rfl ?_
            refine jx_aload_n E 2 dX4_passDay_63 rfl ?_
            refine jx_get E f_X4 7 (v := vI ((gainsAllP (coldP (x 1)) (flowsP (coldP (x 1)) (committeeP (rainedP (x 1))) (x 1 4).toNat) k) 4)) (wx_town (j := 1) (by decide)) (by decide) wf_X4_37 (by first | rfl | (simp only [setc_at, List.getElem?_cons_zero, List.getElem?_cons_succ]; done) | (simp [setc_at]; done)) dX4_passDay_64 ?_
            refine jx_icmp_ge (tgt := 86) E dX4_passDay_67 (by decide) (fun c2 => ?_) (fun c2 => ?_)
            · skip
              refine jx_aload_n E 2 dX4_passDay_86 rfl ?_
              refine jx_dup E dX4_passDay_87 ?_
              refine jx_get E f_X4 0 (v := vI ((gainsAllP (coldP (x 1)) (flowsP (coldP (x 1)) (committeeP (rainedP (x 1))) (x 1 4).toNat) k) 0)) (wx_town (j := 1) (by decide)) (by decide) wf_X4_9 (by first | rfl | (simp only [setc_at, List.getElem?_cons_zero, List.getElem?_cons_succ]; done) | (simp [setc_at]; done)) dX4_passDay_88 ?_
              refine jx_iconst E dX4_passDay_91 ?_
              refine jx_iadd E dX4_passDay_92 ?_
              refine jx_put E f_X4 0 (wx_town (j := 1) (by decide)) (by decide) wf_X4_9 rfl rfl rfl (Nat.le_of_ble_eq_true rfl) (wp_town0 (j := 1) (by decide)) dX4_passDay_93 ?_
              refine jx_eq (ws' := wsX G a (setc x 1 (updI (gainsAllP (coldP (x 1)) (flowsP (coldP (x 1)) (committeeP (rainedP (x 1))) (x 1 4).toNat) k) 0 (((gainsAllP (coldP (x 1)) (flowsP (coldP (x 1)) (committeeP (rainedP (x 1))) (x 1 4).toNat) k) 0) + 1)))) (congrArg (wsX G a) (by first | rfl | (rw [setc_setc]; rfl) | exact setc_in _ _ _ _ (by decide) | exact setc_in2 _ _ _ _ _ (by decide) (by decide) | (simp only [setc_setc, setc_at]; done) | (simp only [setc_setc, setc_at]; rfl) | (funext d; simp only [setc_app]; (repeat' split) <;> first | rfl | omega))) ?_
              exact jx_vret E hr dX4_passDay_96 (by rw [hd0, show k = (x 1 4).toNat by omega]; rfl)
            · skip
              refine jx_aload_n E 2 dX4_passDay_70 rfl ?_
              refine jx_get E f_X4 6 (v := .ref (a 16)) (wx_town (j := 1) (by decide)) (by decide) wf_X4_33 rfl dX4_passDay_71 ?_
              refine jx_iload_n E 0 dX4_passDay_74 rfl ?_
              refine jx_aald E 2 (y := a (5 + 12 * 1 + (k : Int).toNat)) (wx_row (j := 1) (by decide)) rfl rfl (by omega) (by omega) (by decide) dX4_passDay_75 ?_
              refine jx_iload_n E 1 dX4_passDay_76 rfl ?_
              refine jx_callVv E [vI (coldP (x 1))] [] (c_X0_endDay_1 l G a (setc x 1 (gainsAllP (coldP (x 1)) (flowsP (coldP (x 1)) (committeeP (rainedP (x 1))) (x 1 4).toNat) k)) (cd := coldP (x 1)) (i := (k : Int)) (by omega) (hk.1.2.2.2.2.2.2.2 _ (by omega) (by rw [hk4]; omega)) hcd) mb_X0_endDay mv_X0_endDay wl_X4_98 f_X0 (wx_fou (j := 1) (by decide) (by omega) (by omega)) dX4_passDay_77 ?_
              refine jx_eq (ws' := wsX G a (setc x 1 (gainP (coldP (x 1)) (gainsAllP (coldP (x 1)) (flowsP (coldP (x 1)) (committeeP (rainedP (x 1))) (x 1 4).toNat) k) (k : Int)))) (congrArg (wsX G a) (by first | rfl | (rw [setc_setc]; rfl) | exact setc_in _ _ _ _ (by decide) | exact setc_in2 _ _ _ _ _ (by decide) (by decide) | (simp only [setc_setc, setc_at]; done) | (simp only [setc_setc, setc_at]; rfl) | (funext d; simp only [setc_app]; (repeat' split) <;> first | rfl | omega))) ?_
              refine jx_iinc E 0 dX4_passDay_80 rfl (by decide) [(2, vI ((k : Int) + 1)), (1, vI (coldP (x 1))), (0, .ref (a 13))] rfl ?_
              refine jx_goto (tgt := 62) E dX4_passDay_83 (by decide) ?_
              exact ih (k + 1) (by omega) (by omega)
        rw [show k = (x 1 4).toNat by omega]
        exact LP62 9 0 (by omega) (by omega)
      · skip
        refine jx_aload_n E 2 dX4_passDay_43 rfl ?_
        refine jx_aload_n E 2 dX4_passDay_44 rfl ?_
        refine jx_get E f_X4 6 (v := .ref (a 16)) (wx_town (j := 1) (by decide)) (by decide) wf_X4_33 rfl dX4_passDay_45 ?_
        refine jx_iload_n E 0 dX4_passDay_48 rfl ?_
        refine jx_aald E 2 (y := a (5 + 12 * 1 + (k : Int).toNat)) (wx_row (j := 1) (by decide)) rfl rfl (by omega) (by omega) (by decide) dX4_passDay_49 ?_
        refine jx_iload_n E 1 dX4_passDay_50 rfl ?_
        refine jx_callVv E [.ref (a (5 + 12 * 1 + (k : Int).toNat)), vI (coldP (x 1))] [] (c_X4_letRun_1 l G a (setc x 1 (flowsP (coldP (x 1)) (committeeP (rainedP (x 1))) k)) (i := (k : Int)) (cd := coldP (x 1)) hk.1 (show 0 ≤ (k : Int) ∧ (k : Int) < flowsP (coldP (x 1)) (committeeP (rainedP (x 1))) k 4 by rw [hk4]; omega) hcd) mb_X4_letRun mv_X4_letRun wl_X4_94 f_X4 (wx_town (j := 1) (by decide)) dX4_passDay_51 ?_
        refine jx_eq (ws' := wsX G a (setc x 1 (flowP (coldP (x 1)) (flowsP (coldP (x 1)) (committeeP (rainedP (x 1))) k) (k : Int)))) (congrArg (wsX G a) (by first | rfl | (rw [setc_setc]; rfl) | exact setc_in _ _ _ _ (by decide) | exact setc_in2 _ _ _ _ _ (by decide) (by decide) | (simp only [setc_setc, setc_at]; done) | (simp only [setc_setc, setc_at]; rfl) | (funext d; simp only [setc_app]; (repeat' split) <;> first | rfl | omega))) ?_
        refine jx_iinc E 0 dX4_passDay_54 rfl (by decide) [(2, vI ((k : Int) + 1)), (1, vI (coldP (x 1))), (0, .ref (a 13))] rfl ?_
        refine jx_goto (tgt := 35) E dX4_passDay_57 (by decide) ?_
        exact ih (k + 1) (by omega) (by omega)
  exact LP35 9 0 (by omega) (by omega)
set_option maxHeartbeats 4000000 in
theorem c_X4_passDays_0 (l : Launch) (G : GT) (a : Nat → Nat) (x : MS) {n : Int} (h1 : VT 1000000 (x 0)) (h2 : 0 ≤ n ∧ n ≤ 1000) : CtV l G yX4_passDays cX4_passDays 3 none 5 [.ref (a 1), vI n] (wsX G a x) (wsX G a (setc x 0 (daysP n.toNat (x 0)))) := by
  refine CtV.of (by decide) (Nat.le_of_ble_eq_true rfl) ?_
  intro p e s m args below meth c A E hr
  refine jx_lv (lv' := [(0, .ref (a 1)), (1, vI n)]) [0, 1] rfl ?_
  refine jx_iconst E dX4_passDays_0 ?_
  refine jx_istore_n E dX4_passDays_1 (by decide) [(2, vI 0), (0, .ref (a 1)), (1, vI n)] rfl ?_
  have LP2 : ∀ (n2 : Nat) (k : Nat), ((k : Int) ≤ n) → (n - (k : Int) < n2) → JX p l e (rmL 5) s m args below meth c 3 G A 0 0 (QV below args s G A (wsX G a (setc x 0 (daysP n.toNat (x 0))))) (wsX G a (setc x 0 (daysP k (x 0)))) 2 [(2, vI (k : Int)), (0, .ref (a 1)), (1, vI n)] [] := by
    intro n2
    induction n2 with
    | zero => intro k q1 q2; exfalso; omega
    | succ n2 ih =>
      intro k q1 q2
      refine jx_iload_n E 0 dX4_passDays_2 rfl ?_
      refine jx_iload_n E 2 dX4_passDays_3 rfl ?_
      refine jx_icmp_ge (tgt := 17) E dX4_passDays_4 (by decide) (fun c1 => ?_) (fun c1 => ?_)
      · skip
        exact jx_vret E hr dX4_passDays_17 (by rw [show k = n.toNat by omega])
      · skip
        refine jx_aload_n E 1 dX4_passDays_7 rfl ?_
        refine jx_callVv E [] [] (c_X4_passDay_0 l G a (setc x 0 (daysP k (x 0)))  (VT_up (VT_days h1 k) (by omega))) mb_X4_passDay mv_X4_passDay wl_X4_85 f_X4 (wx_town (j := 0) (by decide)) dX4_passDays_8 ?_
        refine jx_eq (ws' := wsX G a (setc x 0 (dayP (daysP k (x 0))))) (congrArg (wsX G a) (by first | rfl | (rw [setc_setc]; rfl) | exact setc_in _ _ _ _ (by decide) | exact setc_in2 _ _ _ _ _ (by decide) (by decide) | (simp only [setc_setc, setc_at]; done) | (simp only [setc_setc, setc_at]; rfl) | (funext d; simp only [setc_app]; (repeat' split) <;> first | rfl | omega))) ?_
        refine jx_iinc E 0 dX4_passDays_11 rfl (by decide) [(2, vI ((k : Int) + 1)), (0, .ref (a 1)), (1, vI n)] rfl ?_
        refine jx_goto (tgt := 2) E dX4_passDays_14 (by decide) ?_
        exact ih (k + 1) (by omega) (by omega)
  refine jx_eq (ws' := wsX G a (setc x 0 (daysP 0 (x 0)))) (congrArg (wsX G a) (setc_self x 0).symm) ?_
  exact LP2 1001 0 (by omega) (by omega)
set_option maxHeartbeats 4000000 in
theorem c_X4_passDays_1 (l : Launch) (G : GT) (a : Nat → Nat) (x : MS) {n : Int} (h1 : VT 1000000 (x 1)) (h2 : 0 ≤ n ∧ n ≤ 1000) : CtV l G yX4_passDays cX4_passDays 3 none 5 [.ref (a 13), vI n] (wsX G a x) (wsX G a (setc x 1 (daysP n.toNat (x 1)))) := by
  refine CtV.of (by decide) (Nat.le_of_ble_eq_true rfl) ?_
  intro p e s m args below meth c A E hr
  refine jx_lv (lv' := [(0, .ref (a 13)), (1, vI n)]) [0, 1] rfl ?_
  refine jx_iconst E dX4_passDays_0 ?_
  refine jx_istore_n E dX4_passDays_1 (by decide) [(2, vI 0), (0, .ref (a 13)), (1, vI n)] rfl ?_
  have LP2 : ∀ (n2 : Nat) (k : Nat), ((k : Int) ≤ n) → (n - (k : Int) < n2) → JX p l e (rmL 5) s m args below meth c 3 G A 0 0 (QV below args s G A (wsX G a (setc x 1 (daysP n.toNat (x 1))))) (wsX G a (setc x 1 (daysP k (x 1)))) 2 [(2, vI (k : Int)), (0, .ref (a 13)), (1, vI n)] [] := by
    intro n2
    induction n2 with
    | zero => intro k q1 q2; exfalso; omega
    | succ n2 ih =>
      intro k q1 q2
      refine jx_iload_n E 0 dX4_passDays_2 rfl ?_
      refine jx_iload_n E 2 dX4_passDays_3 rfl ?_
      refine jx_icmp_ge (tgt := 17) E dX4_passDays_4 (by decide) (fun c1 => ?_) (fun c1 => ?_)
      · skip
        exact jx_vret E hr dX4_passDays_17 (by rw [show k = n.toNat by omega])
      · skip
        refine jx_aload_n E 1 dX4_passDays_7 rfl ?_
        refine jx_callVv E [] [] (c_X4_passDay_1 l G a (setc x 1 (daysP k (x 1)))  (VT_up (VT_days h1 k) (by omega))) mb_X4_passDay mv_X4_passDay wl_X4_85 f_X4 (wx_town (j := 1) (by decide)) dX4_passDays_8 ?_
        refine jx_eq (ws' := wsX G a (setc x 1 (dayP (daysP k (x 1))))) (congrArg (wsX G a) (by first | rfl | (rw [setc_setc]; rfl) | exact setc_in _ _ _ _ (by decide) | exact setc_in2 _ _ _ _ _ (by decide) (by decide) | (simp only [setc_setc, setc_at]; done) | (simp only [setc_setc, setc_at]; rfl) | (funext d; simp only [setc_app]; (repeat' split) <;> first | rfl | omega))) ?_
        refine jx_iinc E 0 dX4_passDays_11 rfl (by decide) [(2, vI ((k : Int) + 1)), (0, .ref (a 13)), (1, vI n)] rfl ?_
        refine jx_goto (tgt := 2) E dX4_passDays_14 (by decide) ?_
        exact ih (k + 1) (by omega) (by omega)
  refine jx_eq (ws' := wsX G a (setc x 1 (daysP 0 (x 1)))) (congrArg (wsX G a) (setc_self x 1).symm) ?_
  exact LP2 1001 0 (by omega) (by omega)
