/-! 17.m6: laid by the walker out of specM6 -/
theorem zer_up (u : Int → Int) (a k : Int) (h : 0 ≤ k) : updI (zerP u a (a + k)) (a + k) 0 = zerP u a (a + (k + 1)) := by
  funext q; simp only [updI_app, zerP]; (repeat' split) <;> first | rfl | (exfalso; omega)
theorem zer_0 (u : Int → Int) (a : Int) : zerP u a (a + 0) = u := by
  funext q; simp only [zerP]; rw [if_neg (by omega)]
theorem feed_0 (y : MS) (v n : Int) (h : 0 ≤ n) : y = setc (setc y 4 (feedP (y 4) (y 8 1) v n (n - ((n.toNat : Nat) : Int)))) 8 (updI (y 8) 1 (y 8 1 + (n - ((n.toNat : Nat) : Int)))) := by
  have e : n - ((n.toNat : Nat) : Int) = 0 := by omega
  rw [e, Int.add_zero]
  have e1 : feedP (y 4) (y 8 1) v n 0 = y 4 := by funext q; simp only [feedP]; rw [if_neg (by omega)]
  have e2 : updI (y 8) 1 (y 8 1) = y 8 := by funext q; simp only [updI_app]; split <;> simp_all
  rw [e1, e2, setc_self, setc_self]
theorem feed_1 (y : MS) (v n : Int) (k : Nat) (h : ((k + 1 : Nat) : Int) ≤ n) : setc (setc y 4 (updI (feedP (y 4) (y 8 1) v n (n - ((k + 1 : Nat) : Int))) (y 8 1 + (n - ((k + 1 : Nat) : Int))) (byteP v (k + 1 - 1)))) 8 (updI (updI (y 8) 1 (y 8 1 + (n - ((k + 1 : Nat) : Int)))) 1 (y 8 1 + (n - ((k + 1 : Nat) : Int)) + 1)) = setc (setc y 4 (feedP (y 4) (y 8 1) v n (n - (k : Int)))) 8 (updI (y 8) 1 (y 8 1 + (n - (k : Int)))) := by
  have e1 : updI (feedP (y 4) (y 8 1) v n (n - ((k + 1 : Nat) : Int))) (y 8 1 + (n - ((k + 1 : Nat) : Int))) (byteP v (k + 1 - 1)) = feedP (y 4) (y 8 1) v n (n - (k : Int)) := by
    funext q
    simp only [updI_app, feedP]
    by_cases hq : q = y 8 1 + (n - ((k + 1 : Nat) : Int))
    · rw [if_pos hq, if_pos (by omega), show (n - 1 - (q - y 8 1)).toNat = k + 1 - 1 by omega]
    · rw [if_neg hq]
      (repeat' split) <;> first | rfl | (exfalso; omega)
  have e2 : updI (updI (y 8) 1 (y 8 1 + (n - ((k + 1 : Nat) : Int)))) 1 (y 8 1 + (n - ((k + 1 : Nat) : Int)) + 1) = updI (y 8) 1 (y 8 1 + (n - (k : Int))) := by
    funext q
    simp only [updI_app]
    split
    · omega
    · rfl
  rw [e1, e2]
set_option maxHeartbeats 4000000 in
theorem c_X6_wipe (l : Launch) (G : GT) (b : Nat → Nat) (y : MS) : CtI l G yX6_wipe cX6_wipe 2 (some .int) 1 [.ref (b 0)] (wsM G b y) ((y 8) 1) (wsM G b (setc y 8 (updI (y 8) 1 0))) := by
  refine CtI.of (by decide) (Nat.le_of_ble_eq_true rfl) ?_
  intro p e s m args below meth c A E hr
  refine jx_lv (lv' := [(0, .ref (b 0))]) [0] rfl ?_
  refine jx_aload_n E 0 dX6_wipe_0 rfl ?_
  refine jx_get E f_X6 6 (v := vI ((y 8) 1)) wm_obj (by decide) wf_X6_153 rfl dX6_wipe_1 ?_
  refine jx_istore_n E dX6_wipe_4 (by decide) [(1, vI ((y 8) 1)), (0, .ref (b 0))] rfl ?_
  refine jx_aload_n E 1 dX6_wipe_5 rfl ?_
  refine jx_iconst E dX6_wipe_6 ?_
  refine jx_put E f_X6 6 wm_obj (by decide) wf_X6_153 rfl rfl rfl (Nat.le_of_ble_eq_true rfl) wq_obj6 dX6_wipe_7 ?_
  refine jx_iload_n E 0 dX6_wipe_10 rfl ?_
  exact jx_iret E hr dX6_wipe_11 (by first | rfl | omega) (by first | rfl | (congr 1; done))
set_option maxHeartbeats 4000000 in
theorem c_X6_feed (l : Launch) (G : GT) (b : Nat → Nat) (y : MS) {v n : Int} (h1 : VT 99999 (y 0)) (h2 : VSM y) (h3 : inR v) (h4 : inR n) (h5 : 0 ≤ y 8 1 ∧ y 8 1 ≤ 120) : CtI l G yX6_feed cX6_feed 4 (some .int) 2 [.ref (b 0), vI v, vI n] (wsM G b y) (feedR (y 8 1) n) (wsM G b (endM (if (1 ≤ n ∧ n ≤ 4) ∧ y 8 1 + n ≤ 120 then setc (setc y 4 (feedP (y 4) (y 8 1) v n n)) 8 (updI (y 8) 1 (y 8 1 + n)) else y) (feedR (y 8 1) n))) := by
  obtain ⟨-, v4⟩ : True ∧ (0 ≤ y 0 4 ∧ y 0 4 ≤ 8) := ⟨trivial, h1.2.2.2.2.1⟩
  unfold inR at h3 h4
  refine CtI.of (by decide) (Nat.le_of_ble_eq_true rfl) ?_
  intro p e s m args below meth c A E hr
  refine jx_lv (lv' := [(0, .ref (b 0)), (1, vI v), (2, vI n)]) [0, 1, 2] rfl ?_
  refine jx_iload_n E 2 dX6_feed_0 rfl ?_
  refine jx_i2l E dX6_feed_1 ?_
  refine jx_iconst E dX6_feed_2 ?_
  refine jx_iconst E dX6_feed_3 ?_
  refine jx_callSi E [vL n, vI 1, vI 4] [] (c_X6_in l G (wsM G b y) (v := n) (lo := 1) (hi := 4) (by unfold inL; omega) (by unfold inR; omega) (by unfold inR; omega)) mb_X6_in ms_X6_in wl_X6_41 dX6_feed_4 ?_
  refine jx_if_ne (tgt := 17) E dX6_feed_7 (by decide) (fun c1 => ?_) (fun c1 => ?_)
  · skip
    refine jx_aload_n E 0 dX6_feed_17 rfl ?_
    refine jx_get E f_X6 6 (v := vI ((y 8) 1)) wm_obj (by decide) wf_X6_153 rfl dX6_feed_18 ?_
    refine jx_iload_n E 2 dX6_feed_21 rfl ?_
    refine jx_iadd E dX6_feed_22 ?_
    refine jx_bipush E dX6_feed_23 ?_
    refine jx_icmp_le (tgt := 35) E dX6_feed_25 (by decide) (fun c2 => ?_) (fun c2 => ?_)
    · skip
      refine jx_iload_n E 2 dX6_feed_35 rfl ?_
      refine jx_iconst E dX6_feed_36 ?_
      refine jx_isub E dX6_feed_37 ?_
      refine jx_istore_n E dX6_feed_38 (by decide) [(3, vI (n - 1)), (0, .ref (b 0)), (1, vI v), (2, vI n)] rfl ?_
      have LP39 : ∀ (n2 : Nat) (k : Nat), ((k : Int) ≤ n) → (k < n2) → JX p l e (rmL 2) s m args below meth c 4 G A 0 0 (QI below args s G A (feedR (y 8 1) n) (wsM G b (endM (if (1 ≤ n ∧ n ≤ 4) ∧ y 8 1 + n ≤ 120 then setc (setc y 4 (feedP (y 4) (y 8 1) v n n)) 8 (updI (y 8) 1 (y 8 1 + n)) else y) (feedR (y 8 1) n)))) (wsM G b (setc (setc y 4 (feedP (y 4) (y 8 1) v n (n - k))) 8 (updI (y 8) 1 (y 8 1 + (n - k))))) 39 [(3, vI ((k : Int) - 1)), (0, .ref (b 0)), (1, vI v), (2, vI n)] [] := by
        intro n2
        induction n2 with
        | zero => intro k q1 q2; exfalso; omega
        | succ n2 ih =>
          intro k q1 q2
          refine jx_iload_n E 0 dX6_feed_39 rfl ?_
          refine jx_if_lt (tgt := 78) E dX6_feed_40 (by decide) (fun c3 => ?_) (fun c3 => ?_)
          · skip
            refine jx_aload_n E 1 dX6_feed_78 rfl ?_
            refine jx_get E f_X6 6 (v := vI ((updI (y 8) 1 (y 8 1 + (n - k))) 1)) wm_obj (by decide) wf_X6_153 (by first | rfl | (simp only [setc_at, List.getElem?_cons_zero, List.getElem?_cons_succ]; done) | (simp [setc_at]; done)) dX6_feed_79 ?_
            exact jx_iret E hr dX6_feed_82 (by simp only [feedR]; rw [updI_at]; omega) (by rw [show feedR (y 8 1) n = y 8 1 + n from by simp only [feedR]; omega, if_pos (show (1 ≤ n ∧ n ≤ 4) ∧ y 8 1 + n ≤ 120 by omega), endM_n (by omega), show (k : Int) = 0 by omega, Int.sub_zero])
          · skip
            have ev : updI (y 8) 1 (y 8 1 + (n - (k : Int))) 1 = y 8 1 + (n - (k : Int)) := updI_at _ _ _
            refine jx_aload_n E 1 dX6_feed_43 rfl ?_
            refine jx_get E f_X6 5 (v := .ref (b 5)) wm_obj (by decide) wf_X6_22 rfl dX6_feed_44 ?_
            refine jx_aload_n E 1 dX6_feed_47 rfl ?_
            refine jx_get E f_X6 6 (v := vI ((updI (y 8) 1 (y 8 1 + (n - k))) 1)) wm_obj (by decide) wf_X6_153 (by first | rfl | (simp only [setc_at, List.getElem?_cons_zero, List.getElem?_cons_succ]; done) | (simp [setc_at]; done)) dX6_feed_48 ?_
            refine jx_iload_n E 2 dX6_feed_51 rfl ?_
            refine jx_bipush E dX6_feed_52 ?_
            refine jx_iload_n E 0 dX6_feed_54 rfl ?_
            refine jx_imul E dX6_feed_55 ?_
            refine jx_ishr E (z := (iI v >>> (iI (8 * ((k : Int) - 1)) &&& 31)).toInt) dX6_feed_56 (iI_of _) ?_
            refine jx_sipush E dX6_feed_57 ?_
            refine jx_iand E (z := byteP v (k - 1)) dX6_feed_60 (by have h := byte_M v h3 (k - 1) (by omega); rw [show (((k - 1 : Nat)) : Int) = (k : Int) - 1 by omega] at h; exact h) ?_
            refine jx_iast E wm_tape (wq_tape (by omega) (by omega)) (by omega) (by omega) (by decide) dX6_feed_61 ?_
            refine jx_eq (ws' := wsM G b (setc (setc y 4 (updI (feedP (y 4) (y 8 1) v n (n - k)) ((updI (y 8) 1 (y 8 1 + (n - k))) 1) (byteP v (k - 1)))) 8 (updI (y 8) 1 (y 8 1 + (n - k))))) (congrArg (wsM G b) (by first | rfl | (rw [setc_setc]; rfl) | (simp only [setc_setc, setc_at]; done) | (simp only [setc_setc, setc_at]; rfl) | (funext d; simp only [setc_app]; (repeat' split) <;> first | rfl | omega | simp_all))) ?_
            refine jx_aload_n E 1 dX6_feed_62 rfl ?_
            refine jx_dup E dX6_feed_63 ?_
            refine jx_get E f_X6 6 (v := vI ((updI (y 8) 1 (y 8 1 + (n - k))) 1)) wm_obj (by decide) wf_X6_153 (by first | rfl | (simp only [setc_at, List.getElem?_cons_zero, List.getElem?_cons_succ]; done) | (simp [setc_at]; done)) dX6_feed_64 ?_
            refine jx_iconst E dX6_feed_67 ?_
            refine jx_iadd E dX6_feed_68 ?_
            refine jx_put E f_X6 6 wm_obj (by decide) wf_X6_153 rfl rfl rfl (Nat.le_of_ble_eq_true rfl) wq_obj6 dX6_feed_69 ?_
            refine jx_eq (ws' := wsM G b (setc (setc y 4 (updI (feedP (y 4) (y 8 1) v n (n - k)) ((updI (y 8) 1 (y 8 1 + (n - k))) 1) (byteP v (k - 1)))) 8 (updI (updI (y 8) 1 (y 8 1 + (n - k))) 1 (((updI (y 8) 1 (y 8 1 + (n - k))) 1) + 1)))) (congrArg (wsM G b) (by first | rfl | (rw [setc_setc]; rfl) | (simp only [setc_setc, setc_at]; done) | (simp only [setc_setc, setc_at]; rfl) | (funext d; simp only [setc_app]; (repeat' split) <;> first | rfl | omega | simp_all))) ?_
            refine jx_iinc E 0 dX6_feed_72 rfl (by decide) [(3, vI ((k : Int) - 1 + (-1))), (0, .ref (b 0)), (1, vI v), (2, vI n)] rfl ?_
            refine jx_goto (tgt := 39) E dX6_feed_75 (by decide) ?_
            obtain ⟨k', rfl⟩ : ∃ k', k = k' + 1 := ⟨k - 1, by omega⟩
            refine jx_lve (congrArg (fun z => [(3, vI z), (0, Value.ref (b 0)), (1, vI v), (2, vI n)]) (show ((k' + 1 : Nat) : Int) - 1 + (-1) = (k' : Int) - 1 by omega)) ?_
            refine jx_eq (ws' := wsM G b (setc (setc y 4 (feedP (y 4) (y 8 1) v n (n - (k' : Int)))) 8 (updI (y 8) 1 (y 8 1 + (n - (k' : Int)))))) (congrArg (wsM G b) (feed_1 y v n k' (by omega))) ?_
            exact ih k' (by omega) (by omega)
      refine jx_eq (ws' := wsM G b (setc (setc y 4 (feedP (y 4) (y 8 1) v n (n - ((n.toNat : Nat) : Int)))) 8 (updI (y 8) 1 (y 8 1 + (n - ((n.toNat : Nat) : Int)))))) (congrArg (wsM G b) (feed_0 y v n (by omega))) ?_
      refine jx_lve (congrArg (fun z => [(3, vI z), (0, Value.ref (b 0)), (1, vI v), (2, vI n)]) (show n - 1 = ((n.toNat : Nat) : Int) - 1 by omega)) ?_
      exact LP39 5 n.toNat (by omega) (by omega)
    · skip
      refine jx_aload_n E 0 dX6_feed_28 rfl ?_
      refine jx_ldc E wc_X6_90 dX6_feed_29 ?_
      refine jx_callVi E [vI (-1000000002)] [] (c_X6_finds l G b y (f := (-1000000002)) (by omega)) mb_X6_finds mv_X6_finds wl_X6_37 f_X6 wm_obj dX6_feed_31 ?_
      exact jx_iret E hr dX6_feed_34 (by simp only [feedR]; omega) (by rw [show feedR (y 8 1) n = (-1000000002) from by simp only [feedR]; omega, if_neg (show ¬ ((1 ≤ n ∧ n ≤ 4) ∧ y 8 1 + n ≤ 120) by omega), endM_f (by decide)])
  · skip
    refine jx_aload_n E 0 dX6_feed_10 rfl ?_
    refine jx_ldc E wc_X6_35 dX6_feed_11 ?_
    refine jx_callVi E [vI (-1000000001)] [] (c_X6_finds l G b y (f := (-1000000001)) (by omega)) mb_X6_finds mv_X6_finds wl_X6_37 f_X6 wm_obj dX6_feed_13 ?_
    exact jx_iret E hr dX6_feed_16 (by simp only [feedR]; omega) (by rw [show feedR (y 8 1) n = (-1000000001) from by simp only [feedR]; omega, if_neg (show ¬ ((1 ≤ n ∧ n ≤ 4) ∧ y 8 1 + n ≤ 120) by omega), endM_f (by decide)])
set_option maxHeartbeats 4000000 in
theorem c_X6_isSheet (l : Launch) (G : GT) (ws : va_W) {sh : Int} (h1 : inR sh) : CtI l G yX6_isSheet cX6_isSheet 1 (some .boolean) 2 [vI sh] ws (if vSheet sh then 1 else 0) ws := by
  unfold inR at h1
  refine CtI.of (by decide) (Nat.le_of_ble_eq_true rfl) ?_
  intro p e s m args below meth c A E hr
  refine jx_lv (lv' := [(0, vI sh)]) [0] rfl ?_
  refine jx_iload_n E 0 dX6_isSheet_0 rfl ?_
  refine jx_i2l E dX6_isSheet_1 ?_
  refine jx_iconst E dX6_isSheet_2 ?_
  refine jx_iconst E dX6_isSheet_3 ?_
  refine jx_callSi E [vL sh, vI 0, vI 3] [] (c_X6_in l G ws (v := sh) (lo := 0) (hi := 3) (by unfold inL; omega) (by unfold inR; omega) (by unfold inR; omega)) mb_X6_in ms_X6_in wl_X6_41 dX6_isSheet_4 ?_
  exact jx_zret E hr dX6_isSheet_7 (by omega) (by first | rfl | (congr 1; done)) (by first | exact Or.inl rfl | exact Or.inr rfl | omega)
set_option maxHeartbeats 4000000 in
theorem c_X6_sheet (l : Launch) (G : GT) (b : Nat → Nat) (y : MS) {sh q n : Int} (h1 : VT 99999 (y 0)) (h2 : VSM y) (h3 : inR sh) (h4 : inR q) (h5 : inR n) : CtI l G yX6_sheet cX6_sheet 5 (some .int) 3 [.ref (b 0), vI sh, vI q, vI n] (wsM G b y) (sheetR sh q n) (wsM G b (endM (if gSheet sh q n then setc (setc (setc y 5 (updI (y 5) sh q)) 6 (updI (y 6) sh (if q = 0 then 0 else n))) 7 (zerP (y 7) (40 * sh) (40 * sh + 40)) else y) (sheetR sh q n))) := by
  obtain ⟨-, v4⟩ : True ∧ (0 ≤ y 0 4 ∧ y 0 4 ≤ 8) := ⟨trivial, h1.2.2.2.2.1⟩
  unfold inR at h3 h4 h5
  refine CtI.of (by decide) (Nat.le_of_ble_eq_true rfl) ?_
  intro p e s m args below meth c A E hr
  refine jx_lv (lv' := [(0, .ref (b 0)), (1, vI sh), (2, vI q), (3, vI n)]) [0, 1, 2, 3] rfl ?_
  refine jx_iload_n E 1 dX6_sheet_0 rfl ?_
  refine jx_callSi E [vI sh] [] (c_X6_isSheet l G (wsM G b y) (sh := sh) (by unfold inR; omega)) mb_X6_isSheet ms_X6_isSheet wl_X6_210 dX6_sheet_1 ?_
  refine jx_if_eq (tgt := 29) E dX6_sheet_4 (by decide) (fun c1 => ?_) (fun c1 => ?_)
  · skip
    refine jx_aload_n E 0 dX6_sheet_29 rfl ?_
    refine jx_ldc E wc_X6_35 dX6_sheet_30 ?_
    refine jx_callVi E [vI (-1000000001)] [] (c_X6_finds l G b y (f := (-1000000001)) (by omega)) mb_X6_finds mv_X6_finds wl_X6_37 f_X6 wm_obj dX6_sheet_32 ?_
    exact jx_iret E hr dX6_sheet_35 (by simp only [sheetR]; omega) (by rw [show sheetR sh q n = (-1000000001) from by simp only [sheetR]; omega, if_neg (show ¬ gSheet sh q n by omega), endM_f (by decide)])
  · skip
    refine jx_iload_n E 2 dX6_sheet_7 rfl ?_
    refine jx_if_eq (tgt := 36) E dX6_sheet_8 (by decide) (fun c2 => ?_) (fun c2 => ?_)
    · skip
      refine jx_iload_n E 3 dX6_sheet_36 rfl ?_
      refine jx_if_ge (tgt := 47) E dX6_sheet_37 (by decide) (fun c3 => ?_) (fun c3 => ?_)
      · skip
        refine jx_iload_n E 3 dX6_sheet_47 rfl ?_
        refine jx_bipush E dX6_sheet_48 ?_
        refine jx_icmp_le (tgt := 60) E dX6_sheet_50 (by decide) (fun c4 => ?_) (fun c4 => ?_)
        · skip
          refine jx_aload_n E 0 dX6_sheet_60 rfl ?_
          refine jx_get E f_X6 12 (v := .ref (b 6)) wm_obj (by decide) wf_X6_25 rfl dX6_sheet_61 ?_
          refine jx_iload_n E 1 dX6_sheet_64 rfl ?_
          refine jx_iload_n E 2 dX6_sheet_65 rfl ?_
          refine jx_iast E wm_bits (wq_bits (by omega) (by omega)) (by omega) (by omega) (by decide) dX6_sheet_66 ?_
          have JN82 : JX p l e (rmL 3) s m args below meth c 5 G A 0 0 (QI below args s G A (sheetR sh q n) (wsM G b (endM (if gSheet sh q n then setc (setc (setc y 5 (updI (y 5) sh q)) 6 (updI (y 6) sh (if q = 0 then 0 else n))) 7 (zerP (y 7) (40 * sh) (40 * sh + 40)) else y) (sheetR sh q n)))) (wsM G b (setc (setc y 5 (updI (y 5) sh q)) 6 (updI (y 6) sh (if q = 0 then 0 else n)))) 82 [(0, .ref (b 0)), (1, vI sh), (2, vI q), (3, vI n)] [] := by
            refine jx_iconst E dX6_sheet_82 ?_
            refine jx_istore E dX6_sheet_83 (by decide) [(4, vI 0), (0, .ref (b 0)), (1, vI sh), (2, vI q), (3, vI n)] rfl ?_
            have LP85 : ∀ (n2 : Nat) (k : Nat), ((k : Int) ≤ 40) → (40 - (k : Int) < n2) → JX p l e (rmL 3) s m args below meth c 5 G A 0 0 (QI below args s G A (sheetR sh q n) (wsM G b (endM (if gSheet sh q n then setc (setc (setc y 5 (updI (y 5) sh q)) 6 (updI (y 6) sh (if q = 0 then 0 else n))) 7 (zerP (y 7) (40 * sh) (40 * sh + 40)) else y) (sheetR sh q n)))) (wsM G b (setc (setc (setc y 5 (updI (y 5) sh q)) 6 (updI (y 6) sh (if q = 0 then 0 else n))) 7 (zerP (y 7) (40 * sh) (40 * sh + (k : Int))))) 85 [(4, vI (k : Int)), (0, .ref (b 0)), (1, vI sh), (2, vI q), (3, vI n)] [] := by
              intro n2
              induction n2 with
              | zero => intro k q1 q2; exfalso; omega
              | succ n2 ih =>
                intro k q1 q2
                refine jx_iload E 0 dX6_sheet_85 rfl ?_
                refine jx_bipush E dX6_sheet_87 ?_
                refine jx_icmp_ge (tgt := 111) E dX6_sheet_89 (by decide) (fun c5 => ?_) (fun c5 => ?_)
                · skip
                  refine jx_aload_n E 1 dX6_sheet_111 rfl ?_
                  refine jx_get E f_X6 13 (v := .ref (b 7)) wm_obj (by decide) wf_X6_28 rfl dX6_sheet_112 ?_
                  refine jx_iload_n E 2 dX6_sheet_115 rfl ?_
                  refine jx_iald E (v := (updI (y 6) sh (if q = 0 then 0 else n)) sh) wm_size (row0_at (by omega) (by omega)) (by omega) (by omega) (by decide) dX6_sheet_116 ?_
                  exact jx_iret E hr dX6_sheet_117 (by simp only [sheetR]; rw [updI_at]; omega) (by rw [show sheetR sh q n = (if q = 0 then 0 else n) from by simp only [sheetR]; omega, if_pos (show gSheet sh q n by omega), endM_n (by omega), show (k : Int) = 40 by omega])
                · skip
                  refine jx_aload_n E 1 dX6_sheet_92 rfl ?_
                  refine jx_get E f_X6 14 (v := .ref (b 8)) wm_obj (by decide) wf_X6_31 rfl dX6_sheet_93 ?_
                  refine jx_bipush E dX6_sheet_96 ?_
                  refine jx_iload_n E 2 dX6_sheet_98 rfl ?_
                  refine jx_imul E dX6_sheet_99 ?_
                  refine jx_iload E 0 dX6_sheet_100 rfl ?_
                  refine jx_iadd E dX6_sheet_102 ?_
                  refine jx_lconst0 E dX6_sheet_103 ?_
                  refine jx_last E wm_cells (wq_cells (by omega) (by omega)) (by omega) (by omega) (by decide) dX6_sheet_104 ?_
                  refine jx_eq (ws' := wsM G b (setc (setc (setc y 5 (updI (y 5) sh q)) 6 (updI (y 6) sh (if q = 0 then 0 else n))) 7 (updI (zerP (y 7) (40 * sh) (40 * sh + (k : Int))) ((40 * sh) + (k : Int)) 0))) (congrArg (wsM G b) (by first | rfl | (rw [setc_setc]; rfl) | (simp only [setc_setc, setc_at]; done) | (simp only [setc_setc, setc_at]; rfl) | (funext d; simp only [setc_app]; (repeat' split) <;> first | rfl | omega | simp_all))) ?_
                  refine jx_iinc E 0 dX6_sheet_105 rfl (by decide) [(4, vI ((k : Int) + 1)), (0, .ref (b 0)), (1, vI sh), (2, vI q), (3, vI n)] rfl ?_
                  refine jx_goto (tgt := 85) E dX6_sheet_108 (by decide) ?_
                  rw [zer_up _ _ _ (by omega)]
                  exact ih (k + 1) (by omega) (by omega)
            refine jx_eq (ws' := wsM G b (setc (setc (setc y 5 (updI (y 5) sh q)) 6 (updI (y 6) sh (if q = 0 then 0 else n))) 7 (zerP (y 7) (40 * sh) (40 * sh + ((0 : Nat) : Int))))) (by rw [show (40 * sh + ((0 : Nat) : Int)) = 40 * sh + 0 from rfl, zer_0]; exact congrArg (wsM G b) (setc_self (setc (setc y 5 (updI (y 5) sh q)) 6 (updI (y 6) sh (if q = 0 then 0 else n))) 7).symm) ?_
            exact LP85 41 0 (by omega) (by omega)
          refine jx_aload_n E 0 dX6_sheet_67 rfl ?_
          refine jx_get E f_X6 13 (v := .ref (b 7)) wm_obj (by decide) wf_X6_28 rfl dX6_sheet_68 ?_
          refine jx_iload_n E 1 dX6_sheet_71 rfl ?_
          refine jx_iload_n E 2 dX6_sheet_72 rfl ?_
          refine jx_if_ne (tgt := 80) E dX6_sheet_73 (by decide) (fun c6 => ?_) (fun c6 => ?_)
          · skip
            refine jx_iload_n E 3 dX6_sheet_80 rfl ?_
            refine jx_iast E wm_size (wq_size (by omega) (by omega)) (by omega) (by omega) (by decide) dX6_sheet_81 ?_
            refine jx_eq (ws' := wsM G b (setc (setc y 5 (updI (y 5) sh q)) 6 (updI (y 6) sh (if q = 0 then 0 else n)))) (congrArg (fun z => wsM G b (setc (setc y 5 (updI (y 5) sh q)) 6 (updI (y 6) sh z))) (by omega)) ?_
            exact JN82
          · skip
            refine jx_iconst E dX6_sheet_76 ?_
            refine jx_goto (tgt := 81) E dX6_sheet_77 (by decide) ?_
            refine jx_iast E wm_size (wq_size (by omega) (by omega)) (by omega) (by omega) (by decide) dX6_sheet_81 ?_
            refine jx_eq (ws' := wsM G b (setc (setc y 5 (updI (y 5) sh q)) 6 (updI (y 6) sh (if q = 0 then 0 else n)))) (congrArg (fun z => wsM G b (setc (setc y 5 (updI (y 5) sh q)) 6 (updI (y 6) sh z))) (by omega)) ?_
            exact JN82
        · skip
          refine jx_aload_n E 0 dX6_sheet_53 rfl ?_
          refine jx_ldc E wc_X6_35 dX6_sheet_54 ?_
          refine jx_callVi E [vI (-1000000001)] [] (c_X6_finds l G b y (f := (-1000000001)) (by omega)) mb_X6_finds mv_X6_finds wl_X6_37 f_X6 wm_obj dX6_sheet_56 ?_
          exact jx_iret E hr dX6_sheet_59 (by simp only [sheetR]; omega) (by rw [show sheetR sh q n = (-1000000001) from by simp only [sheetR]; omega, if_neg (show ¬ gSheet sh q n by omega), endM_f (by decide)])
      · skip
        refine jx_aload_n E 0 dX6_sheet_40 rfl ?_
        refine jx_ldc E wc_X6_213 dX6_sheet_41 ?_
        refine jx_callVi E [vI (-1000000007)] [] (c_X6_finds l G b y (f := (-1000000007)) (by omega)) mb_X6_finds mv_X6_finds wl_X6_37 f_X6 wm_obj dX6_sheet_43 ?_
        exact jx_iret E hr dX6_sheet_46 (by simp only [sheetR]; omega) (by rw [show sheetR sh q n = (-1000000007) from by simp only [sheetR]; omega, if_neg (show ¬ gSheet sh q n by omega), endM_f (by decide)])
    · skip
      refine jx_iload_n E 2 dX6_sheet_11 rfl ?_
      refine jx_bipush E dX6_sheet_12 ?_
      refine jx_icmp_eq (tgt := 36) E dX6_sheet_14 (by decide) (fun c7 => ?_) (fun c7 => ?_)
      · skip
        refine jx_iload_n E 3 dX6_sheet_36 rfl ?_
        refine jx_if_ge (tgt := 47) E dX6_sheet_37 (by decide) (fun c8 => ?_) (fun c8 => ?_)
        · skip
          refine jx_iload_n E 3 dX6_sheet_47 rfl ?_
          refine jx_bipush E dX6_sheet_48 ?_
          refine jx_icmp_le (tgt := 60) E dX6_sheet_50 (by decide) (fun c9 => ?_) (fun c9 => ?_)
          · skip
            refine jx_aload_n E 0 dX6_sheet_60 rfl ?_
            refine jx_get E f_X6 12 (v := .ref (b 6)) wm_obj (by decide) wf_X6_25 rfl dX6_sheet_61 ?_
            refine jx_iload_n E 1 dX6_sheet_64 rfl ?_
            refine jx_iload_n E 2 dX6_sheet_65 rfl ?_
            refine jx_iast E wm_bits (wq_bits (by omega) (by omega)) (by omega) (by omega) (by decide) dX6_sheet_66 ?_
            have JN82 : JX p l e (rmL 3) s m args below meth c 5 G A 0 0 (QI below args s G A (sheetR sh q n) (wsM G b (endM (if gSheet sh q n then setc (setc (setc y 5 (updI (y 5) sh q)) 6 (updI (y 6) sh (if q = 0 then 0 else n))) 7 (zerP (y 7) (40 * sh) (40 * sh + 40)) else y) (sheetR sh q n)))) (wsM G b (setc (setc y 5 (updI (y 5) sh q)) 6 (updI (y 6) sh (if q = 0 then 0 else n)))) 82 [(0, .ref (b 0)), (1, vI sh), (2, vI q), (3, vI n)] [] := by
              refine jx_iconst E dX6_sheet_82 ?_
              refine jx_istore E dX6_sheet_83 (by decide) [(4, vI 0), (0, .ref (b 0)), (1, vI sh), (2, vI q), (3, vI n)] rfl ?_
              have LP85 : ∀ (n2 : Nat) (k : Nat), ((k : Int) ≤ 40) → (40 - (k : Int) < n2) → JX p l e (rmL 3) s m args below meth c 5 G A 0 0 (QI below args s G A (sheetR sh q n) (wsM G b (endM (if gSheet sh q n then setc (setc (setc y 5 (updI (y 5) sh q)) 6 (updI (y 6) sh (if q = 0 then 0 else n))) 7 (zerP (y 7) (40 * sh) (40 * sh + 40)) else y) (sheetR sh q n)))) (wsM G b (setc (setc (setc y 5 (updI (y 5) sh q)) 6 (updI (y 6) sh (if q = 0 then 0 else n))) 7 (zerP (y 7) (40 * sh) (40 * sh + (k : Int))))) 85 [(4, vI (k : Int)), (0, .ref (b 0)), (1, vI sh), (2, vI q), (3, vI n)] [] := by
                intro n2
                induction n2 with
                | zero => intro k q1 q2; exfalso; omega
                | succ n2 ih =>
                  intro k q1 q2
                  refine jx_iload E 0 dX6_sheet_85 rfl ?_
                  refine jx_bipush E dX6_sheet_87 ?_
                  refine jx_icmp_ge (tgt := 111) E dX6_sheet_89 (by decide) (fun c10 => ?_) (fun c10 => ?_)
                  · skip
                    refine jx_aload_n E 1 dX6_sheet_111 rfl ?_
                    refine jx_get E f_X6 13 (v := .ref (b 7)) wm_obj (by decide) wf_X6_28 rfl dX6_sheet_112 ?_
                    refine jx_iload_n E 2 dX6_sheet_115 rfl ?_
                    refine jx_iald E (v := (updI (y 6) sh (if q = 0 then 0 else n)) sh) wm_size (row0_at (by omega) (by omega)) (by omega) (by omega) (by decide) dX6_sheet_116 ?_
                    exact jx_iret E hr dX6_sheet_117 (by simp only [sheetR]; rw [updI_at]; omega) (by rw [show sheetR sh q n = (if q = 0 then 0 else n) from by simp only [sheetR]; omega, if_pos (show gSheet sh q n by omega), endM_n (by omega), show (k : Int) = 40 by omega])
                  · skip
                    refine jx_aload_n E 1 dX6_sheet_92 rfl ?_
                    refine jx_get E f_X6 14 (v := .ref (b 8)) wm_obj (by decide) wf_X6_31 rfl dX6_sheet_93 ?_
                    refine jx_bipush E dX6_sheet_96 ?_
                    refine jx_iload_n E 2 dX6_sheet_98 rfl ?_
                    refine jx_imul E dX6_sheet_99 ?_
                    refine jx_iload E 0 dX6_sheet_100 rfl ?_
                    refine jx_iadd E dX6_sheet_102 ?_
                    refine jx_lconst0 E dX6_sheet_103 ?_
                    refine jx_last E wm_cells (wq_cells (by omega) (by omega)) (by omega) (by omega) (by decide) dX6_sheet_104 ?_
                    refine jx_eq (ws' := wsM G b (setc (setc (setc y 5 (updI (y 5) sh q)) 6 (updI (y 6) sh (if q = 0 then 0 else n))) 7 (updI (zerP (y 7) (40 * sh) (40 * sh + (k : Int))) ((40 * sh) + (k : Int)) 0))) (congrArg (wsM G b) (by first | rfl | (rw [setc_setc]; rfl) | (simp only [setc_setc, setc_at]; done) | (simp only [setc_setc, setc_at]; rfl) | (funext d; simp only [setc_app]; (repeat' split) <;> first | rfl | omega | simp_all))) ?_
                    refine jx_iinc E 0 dX6_sheet_105 rfl (by decide) [(4, vI ((k : Int) + 1)), (0, .ref (b 0)), (1, vI sh), (2, vI q), (3, vI n)] rfl ?_
                    refine jx_goto (tgt := 85) E dX6_sheet_108 (by decide) ?_
                    rw [zer_up _ _ _ (by omega)]
                    exact ih (k + 1) (by omega) (by omega)
              refine jx_eq (ws' := wsM G b (setc (setc (setc y 5 (updI (y 5) sh q)) 6 (updI (y 6) sh (if q = 0 then 0 else n))) 7 (zerP (y 7) (40 * sh) (40 * sh + ((0 : Nat) : Int))))) (by rw [show (40 * sh + ((0 : Nat) : Int)) = 40 * sh + 0 from rfl, zer_0]; exact congrArg (wsM G b) (setc_self (setc (setc y 5 (updI (y 5) sh q)) 6 (updI (y 6) sh (if q = 0 then 0 else n))) 7).symm) ?_
              exact LP85 41 0 (by omega) (by omega)
            refine jx_aload_n E 0 dX6_sheet_67 rfl ?_
            refine jx_get E f_X6 13 (v := .ref (b 7)) wm_obj (by decide) wf_X6_28 rfl dX6_sheet_68 ?_
            refine jx_iload_n E 1 dX6_sheet_71 rfl ?_
            refine jx_iload_n E 2 dX6_sheet_72 rfl ?_
            refine jx_if_ne (tgt := 80) E dX6_sheet_73 (by decide) (fun c11 => ?_) (fun c11 => ?_)
            · skip
              refine jx_iload_n E 3 dX6_sheet_80 rfl ?_
              refine jx_iast E wm_size (wq_size (by omega) (by omega)) (by omega) (by omega) (by decide) dX6_sheet_81 ?_
              refine jx_eq (ws' := wsM G b (setc (setc y 5 (updI (y 5) sh q)) 6 (updI (y 6) sh (if q = 0 then 0 else n)))) (congrArg (fun z => wsM G b (setc (setc y 5 (updI (y 5) sh q)) 6 (updI (y 6) sh z))) (by omega)) ?_
              exact JN82
            · skip
              refine jx_iconst E dX6_sheet_76 ?_
              refine jx_goto (tgt := 81) E dX6_sheet_77 (by decide) ?_
              refine jx_iast E wm_size (wq_size (by omega) (by omega)) (by omega) (by omega) (by decide) dX6_sheet_81 ?_
              refine jx_eq (ws' := wsM G b (setc (setc y 5 (updI (y 5) sh q)) 6 (updI (y 6) sh (if q = 0 then 0 else n)))) (congrArg (fun z => wsM G b (setc (setc y 5 (updI (y 5) sh q)) 6 (updI (y 6) sh z))) (by omega)) ?_
              exact JN82
          · skip
            refine jx_aload_n E 0 dX6_sheet_53 rfl ?_
            refine jx_ldc E wc_X6_35 dX6_sheet_54 ?_
            refine jx_callVi E [vI (-1000000001)] [] (c_X6_finds l G b y (f := (-1000000001)) (by omega)) mb_X6_finds mv_X6_finds wl_X6_37 f_X6 wm_obj dX6_sheet_56 ?_
            exact jx_iret E hr dX6_sheet_59 (by simp only [sheetR]; omega) (by rw [show sheetR sh q n = (-1000000001) from by simp only [sheetR]; omega, if_neg (show ¬ gSheet sh q n by omega), endM_f (by decide)])
        · skip
          refine jx_aload_n E 0 dX6_sheet_40 rfl ?_
          refine jx_ldc E wc_X6_213 dX6_sheet_41 ?_
          refine jx_callVi E [vI (-1000000007)] [] (c_X6_finds l G b y (f := (-1000000007)) (by omega)) mb_X6_finds mv_X6_finds wl_X6_37 f_X6 wm_obj dX6_sheet_43 ?_
          exact jx_iret E hr dX6_sheet_46 (by simp only [sheetR]; omega) (by rw [show sheetR sh q n = (-1000000007) from by simp only [sheetR]; omega, if_neg (show ¬ gSheet sh q n by omega), endM_f (by decide)])
      · skip
        refine jx_iload_n E 2 dX6_sheet_17 rfl ?_
        refine jx_bipush E dX6_sheet_18 ?_
        refine jx_icmp_eq (tgt := 36) E dX6_sheet_20 (by decide) (fun c12 => ?_) (fun c12 => ?_)
        · skip
          refine jx_iload_n E 3 dX6_sheet_36 rfl ?_
          refine jx_if_ge (tgt := 47) E dX6_sheet_37 (by decide) (fun c13 => ?_) (fun c13 => ?_)
          · skip
            refine jx_iload_n E 3 dX6_sheet_47 rfl ?_
            refine jx_bipush E dX6_sheet_48 ?_
            refine jx_icmp_le (tgt := 60) E dX6_sheet_50 (by decide) (fun c14 => ?_) (fun c14 => ?_)
            · skip
              refine jx_aload_n E 0 dX6_sheet_60 rfl ?_
              refine jx_get E f_X6 12 (v := .ref (b 6)) wm_obj (by decide) wf_X6_25 rfl dX6_sheet_61 ?_
              refine jx_iload_n E 1 dX6_sheet_64 rfl ?_
              refine jx_iload_n E 2 dX6_sheet_65 rfl ?_
              refine jx_iast E wm_bits (wq_bits (by omega) (by omega)) (by omega) (by omega) (by decide) dX6_sheet_66 ?_
              have JN82 : JX p l e (rmL 3) s m args below meth c 5 G A 0 0 (QI below args s G A (sheetR sh q n) (wsM G b (endM (if gSheet sh q n then setc (setc (setc y 5 (updI (y 5) sh q)) 6 (updI (y 6) sh (if q = 0 then 0 else n))) 7 (zerP (y 7) (40 * sh) (40 * sh + 40)) else y) (sheetR sh q n)))) (wsM G b (setc (setc y 5 (updI (y 5) sh q)) 6 (updI (y 6) sh (if q = 0 then 0 else n)))) 82 [(0, .ref (b 0)), (1, vI sh), (2, vI q), (3, vI n)] [] := by
                refine jx_iconst E dX6_sheet_82 ?_
                refine jx_istore E dX6_sheet_83 (by decide) [(4, vI 0), (0, .ref (b 0)), (1, vI sh), (2, vI q), (3, vI n)] rfl ?_
                have LP85 : ∀ (n2 : Nat) (k : Nat), ((k : Int) ≤ 40) → (40 - (k : Int) < n2) → JX p l e (rmL 3) s m args below meth c 5 G A 0 0 (QI below args s G A (sheetR sh q n) (wsM G b (endM (if gSheet sh q n then setc (setc (setc y 5 (updI (y 5) sh q)) 6 (updI (y 6) sh (if q = 0 then 0 else n))) 7 (zerP (y 7) (40 * sh) (40 * sh + 40)) else y) (sheetR sh q n)))) (wsM G b (setc (setc (setc y 5 (updI (y 5) sh q)) 6 (updI (y 6) sh (if q = 0 then 0 else n))) 7 (zerP (y 7) (40 * sh) (40 * sh + (k : Int))))) 85 [(4, vI (k : Int)), (0, .ref (b 0)), (1, vI sh), (2, vI q), (3, vI n)] [] := by
                  intro n2
                  induction n2 with
                  | zero => intro k q1 q2; exfalso; omega
                  | succ n2 ih =>
                    intro k q1 q2
                    refine jx_iload E 0 dX6_sheet_85 rfl ?_
                    refine jx_bipush E dX6_sheet_87 ?_
                    refine jx_icmp_ge (tgt := 111) E dX6_sheet_89 (by decide) (fun c15 => ?_) (fun c15 => ?_)
                    · skip
                      refine jx_aload_n E 1 dX6_sheet_111 rfl ?_
                      refine jx_get E f_X6 13 (v := .ref (b 7)) wm_obj (by decide) wf_X6_28 rfl dX6_sheet_112 ?_
                      refine jx_iload_n E 2 dX6_sheet_115 rfl ?_
                      refine jx_iald E (v := (updI (y 6) sh (if q = 0 then 0 else n)) sh) wm_size (row0_at (by omega) (by omega)) (by omega) (by omega) (by decide) dX6_sheet_116 ?_
                      exact jx_iret E hr dX6_sheet_117 (by simp only [sheetR]; rw [updI_at]; omega) (by rw [show sheetR sh q n = (if q = 0 then 0 else n) from by simp only [sheetR]; omega, if_pos (show gSheet sh q n by omega), endM_n (by omega), show (k : Int) = 40 by omega])
                    · skip
                      refine jx_aload_n E 1 dX6_sheet_92 rfl ?_
                      refine jx_get E f_X6 14 (v := .ref (b 8)) wm_obj (by decide) wf_X6_31 rfl dX6_sheet_93 ?_
                      refine jx_bipush E dX6_sheet_96 ?_
                      refine jx_iload_n E 2 dX6_sheet_98 rfl ?_
                      refine jx_imul E dX6_sheet_99 ?_
                      refine jx_iload E 0 dX6_sheet_100 rfl ?_
                      refine jx_iadd E dX6_sheet_102 ?_
                      refine jx_lconst0 E dX6_sheet_103 ?_
                      refine jx_last E wm_cells (wq_cells (by omega) (by omega)) (by omega) (by omega) (by decide) dX6_sheet_104 ?_
                      refine jx_eq (ws' := wsM G b (setc (setc (setc y 5 (updI (y 5) sh q)) 6 (updI (y 6) sh (if q = 0 then 0 else n))) 7 (updI (zerP (y 7) (40 * sh) (40 * sh + (k : Int))) ((40 * sh) + (k : Int)) 0))) (congrArg (wsM G b) (by first | rfl | (rw [setc_setc]; rfl) | (simp only [setc_setc, setc_at]; done) | (simp only [setc_setc, setc_at]; rfl) | (funext d; simp only [setc_app]; (repeat' split) <;> first | rfl | omega | simp_all))) ?_
                      refine jx_iinc E 0 dX6_sheet_105 rfl (by decide) [(4, vI ((k : Int) + 1)), (0, .ref (b 0)), (1, vI sh), (2, vI q), (3, vI n)] rfl ?_
                      refine jx_goto (tgt := 85) E dX6_sheet_108 (by decide) ?_
                      rw [zer_up _ _ _ (by omega)]
                      exact ih (k + 1) (by omega) (by omega)
                refine jx_eq (ws' := wsM G b (setc (setc (setc y 5 (updI (y 5) sh q)) 6 (updI (y 6) sh (if q = 0 then 0 else n))) 7 (zerP (y 7) (40 * sh) (40 * sh + ((0 : Nat) : Int))))) (by rw [show (40 * sh + ((0 : Nat) : Int)) = 40 * sh + 0 from rfl, zer_0]; exact congrArg (wsM G b) (setc_self (setc (setc y 5 (updI (y 5) sh q)) 6 (updI (y 6) sh (if q = 0 then 0 else n))) 7).symm) ?_
                exact LP85 41 0 (by omega) (by omega)
              refine jx_aload_n E 0 dX6_sheet_67 rfl ?_
              refine jx_get E f_X6 13 (v := .ref (b 7)) wm_obj (by decide) wf_X6_28 rfl dX6_sheet_68 ?_
              refine jx_iload_n E 1 dX6_sheet_71 rfl ?_
              refine jx_iload_n E 2 dX6_sheet_72 rfl ?_
              refine jx_if_ne (tgt := 80) E dX6_sheet_73 (by decide) (fun c16 => ?_) (fun c16 => ?_)
              · skip
                refine jx_iload_n E 3 dX6_sheet_80 rfl ?_
                refine jx_iast E wm_size (wq_size (by omega) (by omega)) (by omega) (by omega) (by decide) dX6_sheet_81 ?_
                refine jx_eq (ws' := wsM G b (setc (setc y 5 (updI (y 5) sh q)) 6 (updI (y 6) sh (if q = 0 then 0 else n)))) (congrArg (fun z => wsM G b (setc (setc y 5 (updI (y 5) sh q)) 6 (updI (y 6) sh z))) (by omega)) ?_
                exact JN82
              · skip
                refine jx_iconst E dX6_sheet_76 ?_
                refine jx_goto (tgt := 81) E dX6_sheet_77 (by decide) ?_
                refine jx_iast E wm_size (wq_size (by omega) (by omega)) (by omega) (by omega) (by decide) dX6_sheet_81 ?_
                refine jx_eq (ws' := wsM G b (setc (setc y 5 (updI (y 5) sh q)) 6 (updI (y 6) sh (if q = 0 then 0 else n)))) (congrArg (fun z => wsM G b (setc (setc y 5 (updI (y 5) sh q)) 6 (updI (y 6) sh z))) (by omega)) ?_
                exact JN82
            · skip
              refine jx_aload_n E 0 dX6_sheet_53 rfl ?_
              refine jx_ldc E wc_X6_35 dX6_sheet_54 ?_
              refine jx_callVi E [vI (-1000000001)] [] (c_X6_finds l G b y (f := (-1000000001)) (by omega)) mb_X6_finds mv_X6_finds wl_X6_37 f_X6 wm_obj dX6_sheet_56 ?_
              exact jx_iret E hr dX6_sheet_59 (by simp only [sheetR]; omega) (by rw [show sheetR sh q n = (-1000000001) from by simp only [sheetR]; omega, if_neg (show ¬ gSheet sh q n by omega), endM_f (by decide)])
          · skip
            refine jx_aload_n E 0 dX6_sheet_40 rfl ?_
            refine jx_ldc E wc_X6_213 dX6_sheet_41 ?_
            refine jx_callVi E [vI (-1000000007)] [] (c_X6_finds l G b y (f := (-1000000007)) (by omega)) mb_X6_finds mv_X6_finds wl_X6_37 f_X6 wm_obj dX6_sheet_43 ?_
            exact jx_iret E hr dX6_sheet_46 (by simp only [sheetR]; omega) (by rw [show sheetR sh q n = (-1000000007) from by simp only [sheetR]; omega, if_neg (show ¬ gSheet sh q n by omega), endM_f (by decide)])
        · skip
          refine jx_iload_n E 2 dX6_sheet_23 rfl ?_
          refine jx_bipush E dX6_sheet_24 ?_
          refine jx_icmp_eq (tgt := 36) E dX6_sheet_26 (by decide) (fun c17 => ?_) (fun c17 => ?_)
          · skip
            refine jx_iload_n E 3 dX6_sheet_36 rfl ?_
            refine jx_if_ge (tgt := 47) E dX6_sheet_37 (by decide) (fun c18 => ?_) (fun c18 => ?_)
            · skip
              refine jx_iload_n E 3 dX6_sheet_47 rfl ?_
              refine jx_bipush E dX6_sheet_48 ?_
              refine jx_icmp_le (tgt := 60) E dX6_sheet_50 (by decide) (fun c19 => ?_) (fun c19 => ?_)
              · skip
                refine jx_aload_n E 0 dX6_sheet_60 rfl ?_
                refine jx_get E f_X6 12 (v := .ref (b 6)) wm_obj (by decide) wf_X6_25 rfl dX6_sheet_61 ?_
                refine jx_iload_n E 1 dX6_sheet_64 rfl ?_
                refine jx_iload_n E 2 dX6_sheet_65 rfl ?_
                refine jx_iast E wm_bits (wq_bits (by omega) (by omega)) (by omega) (by omega) (by decide) dX6_sheet_66 ?_
                have JN82 : JX p l e (rmL 3) s m args below meth c 5 G A 0 0 (QI below args s G A (sheetR sh q n) (wsM G b (endM (if gSheet sh q n then setc (setc (setc y 5 (updI (y 5) sh q)) 6 (updI (y 6) sh (if q = 0 then 0 else n))) 7 (zerP (y 7) (40 * sh) (40 * sh + 40)) else y) (sheetR sh q n)))) (wsM G b (setc (setc y 5 (updI (y 5) sh q)) 6 (updI (y 6) sh (if q = 0 then 0 else n)))) 82 [(0, .ref (b 0)), (1, vI sh), (2, vI q), (3, vI n)] [] := by
                  refine jx_iconst E dX6_sheet_82 ?_
                  refine jx_istore E dX6_sheet_83 (by decide) [(4, vI 0), (0, .ref (b 0)), (1, vI sh), (2, vI q), (3, vI n)] rfl ?_
                  have LP85 : ∀ (n2 : Nat) (k : Nat), ((k : Int) ≤ 40) → (40 - (k : Int) < n2) → JX p l e (rmL 3) s m args below meth c 5 G A 0 0 (QI below args s G A (sheetR sh q n) (wsM G b (endM (if gSheet sh q n then setc (setc (setc y 5 (updI (y 5) sh q)) 6 (updI (y 6) sh (if q = 0 then 0 else n))) 7 (zerP (y 7) (40 * sh) (40 * sh + 40)) else y) (sheetR sh q n)))) (wsM G b (setc (setc (setc y 5 (updI (y 5) sh q)) 6 (updI (y 6) sh (if q = 0 then 0 else n))) 7 (zerP (y 7) (40 * sh) (40 * sh + (k : Int))))) 85 [(4, vI (k : Int)), (0, .ref (b 0)), (1, vI sh), (2, vI q), (3, vI n)] [] := by
                    intro n2
                    induction n2 with
                    | zero => intro k q1 q2; exfalso; omega
                    | succ n2 ih =>
                      intro k q1 q2
                      refine jx_iload E 0 dX6_sheet_85 rfl ?_
                      refine jx_bipush E dX6_sheet_87 ?_
                      refine jx_icmp_ge (tgt := 111) E dX6_sheet_89 (by decide) (fun c20 => ?_) (fun c20 => ?_)
                      · skip
                        refine jx_aload_n E 1 dX6_sheet_111 rfl ?_
                        refine jx_get E f_X6 13 (v := .ref (b 7)) wm_obj (by decide) wf_X6_28 rfl dX6_sheet_112 ?_
                        refine jx_iload_n E 2 dX6_sheet_115 rfl ?_
                        refine jx_iald E (v := (updI (y 6) sh (if q = 0 then 0 else n)) sh) wm_size (row0_at (by omega) (by omega)) (by omega) (by omega) (by decide) dX6_sheet_116 ?_
                        exact jx_iret E hr dX6_sheet_117 (by simp only [sheetR]; rw [updI_at]; omega) (by rw [show sheetR sh q n = (if q = 0 then 0 else n) from by simp only [sheetR]; omega, if_pos (show gSheet sh q n by omega), endM_n (by omega), show (k : Int) = 40 by omega])
                      · skip
                        refine jx_aload_n E 1 dX6_sheet_92 rfl ?_
                        refine jx_get E f_X6 14 (v := .ref (b 8)) wm_obj (by decide) wf_X6_31 rfl dX6_sheet_93 ?_
                        refine jx_bipush E dX6_sheet_96 ?_
                        refine jx_iload_n E 2 dX6_sheet_98 rfl ?_
                        refine jx_imul E dX6_sheet_99 ?_
                        refine jx_iload E 0 dX6_sheet_100 rfl ?_
                        refine jx_iadd E dX6_sheet_102 ?_
                        refine jx_lconst0 E dX6_sheet_103 ?_
                        refine jx_last E wm_cells (wq_cells (by omega) (by omega)) (by omega) (by omega) (by decide) dX6_sheet_104 ?_
                        refine jx_eq (ws' := wsM G b (setc (setc (setc y 5 (updI (y 5) sh q)) 6 (updI (y 6) sh (if q = 0 then 0 else n))) 7 (updI (zerP (y 7) (40 * sh) (40 * sh + (k : Int))) ((40 * sh) + (k : Int)) 0))) (congrArg (wsM G b) (by first | rfl | (rw [setc_setc]; rfl) | (simp only [setc_setc, setc_at]; done) | (simp only [setc_setc, setc_at]; rfl) | (funext d; simp only [setc_app]; (repeat' split) <;> first | rfl | omega | simp_all))) ?_
                        refine jx_iinc E 0 dX6_sheet_105 rfl (by decide) [(4, vI ((k : Int) + 1)), (0, .ref (b 0)), (1, vI sh), (2, vI q), (3, vI n)] rfl ?_
                        refine jx_goto (tgt := 85) E dX6_sheet_108 (by decide) ?_
                        rw [zer_up _ _ _ (by omega)]
                        exact ih (k + 1) (by omega) (by omega)
                  refine jx_eq (ws' := wsM G b (setc (setc (setc y 5 (updI (y 5) sh q)) 6 (updI (y 6) sh (if q = 0 then 0 else n))) 7 (zerP (y 7) (40 * sh) (40 * sh + ((0 : Nat) : Int))))) (by rw [show (40 * sh + ((0 : Nat) : Int)) = 40 * sh + 0 from rfl, zer_0]; exact congrArg (wsM G b) (setc_self (setc (setc y 5 (updI (y 5) sh q)) 6 (updI (y 6) sh (if q = 0 then 0 else n))) 7).symm) ?_
                  exact LP85 41 0 (by omega) (by omega)
                refine jx_aload_n E 0 dX6_sheet_67 rfl ?_
                refine jx_get E f_X6 13 (v := .ref (b 7)) wm_obj (by decide) wf_X6_28 rfl dX6_sheet_68 ?_
                refine jx_iload_n E 1 dX6_sheet_71 rfl ?_
                refine jx_iload_n E 2 dX6_sheet_72 rfl ?_
                refine jx_if_ne (tgt := 80) E dX6_sheet_73 (by decide) (fun c21 => ?_) (fun c21 => ?_)
                · skip
                  refine jx_iload_n E 3 dX6_sheet_80 rfl ?_
                  refine jx_iast E wm_size (wq_size (by omega) (by omega)) (by omega) (by omega) (by decide) dX6_sheet_81 ?_
                  refine jx_eq (ws' := wsM G b (setc (setc y 5 (updI (y 5) sh q)) 6 (updI (y 6) sh (if q = 0 then 0 else n)))) (congrArg (fun z => wsM G b (setc (setc y 5 (updI (y 5) sh q)) 6 (updI (y 6) sh z))) (by omega)) ?_
                  exact JN82
                · skip
                  refine jx_iconst E dX6_sheet_76 ?_
                  refine jx_goto (tgt := 81) E dX6_sheet_77 (by decide) ?_
                  refine jx_iast E wm_size (wq_size (by omega) (by omega)) (by omega) (by omega) (by decide) dX6_sheet_81 ?_
                  refine jx_eq (ws' := wsM G b (setc (setc y 5 (updI (y 5) sh q)) 6 (updI (y 6) sh (if q = 0 then 0 else n)))) (congrArg (fun z => wsM G b (setc (setc y 5 (updI (y 5) sh q)) 6 (updI (y 6) sh z))) (by omega)) ?_
                  exact JN82
              · skip
                refine jx_aload_n E 0 dX6_sheet_53 rfl ?_
                refine jx_ldc E wc_X6_35 dX6_sheet_54 ?_
                refine jx_callVi E [vI (-1000000001)] [] (c_X6_finds l G b y (f := (-1000000001)) (by omega)) mb_X6_finds mv_X6_finds wl_X6_37 f_X6 wm_obj dX6_sheet_56 ?_
                exact jx_iret E hr dX6_sheet_59 (by simp only [sheetR]; omega) (by rw [show sheetR sh q n = (-1000000001) from by simp only [sheetR]; omega, if_neg (show ¬ gSheet sh q n by omega), endM_f (by decide)])
            · skip
              refine jx_aload_n E 0 dX6_sheet_40 rfl ?_
              refine jx_ldc E wc_X6_213 dX6_sheet_41 ?_
              refine jx_callVi E [vI (-1000000007)] [] (c_X6_finds l G b y (f := (-1000000007)) (by omega)) mb_X6_finds mv_X6_finds wl_X6_37 f_X6 wm_obj dX6_sheet_43 ?_
              exact jx_iret E hr dX6_sheet_46 (by simp only [sheetR]; omega) (by rw [show sheetR sh q n = (-1000000007) from by simp only [sheetR]; omega, if_neg (show ¬ gSheet sh q n by omega), endM_f (by decide)])
          · skip
            refine jx_aload_n E 0 dX6_sheet_29 rfl ?_
            refine jx_ldc E wc_X6_35 dX6_sheet_30 ?_
            refine jx_callVi E [vI (-1000000001)] [] (c_X6_finds l G b y (f := (-1000000001)) (by omega)) mb_X6_finds mv_X6_finds wl_X6_37 f_X6 wm_obj dX6_sheet_32 ?_
            exact jx_iret E hr dX6_sheet_35 (by simp only [sheetR]; omega) (by rw [show sheetR sh q n = (-1000000001) from by simp only [sheetR]; omega, if_neg (show ¬ gSheet sh q n by omega), endM_f (by decide)])
set_option maxHeartbeats 4000000 in
theorem c_X6_notThere (l : Launch) (G : GT) (b : Nat → Nat) (y : MS) {sh : Int} (h1 : inR sh) (h2 : vSheet sh → vBits (y 5 sh)) : CtI l G yX6_notThere cX6_notThere 2 (some .int) 3 [.ref (b 0), vI sh] (wsM G b y) (nthR ((y 5) sh) sh) (wsM G b y) := by
  unfold inR at h1
  refine CtI.of (by decide) (Nat.le_of_ble_eq_true rfl) ?_
  intro p e s m args below meth c A E hr
  refine jx_lv (lv' := [(0, .ref (b 0)), (1, vI sh)]) [0, 1] rfl ?_
  refine jx_iload_n E 1 dX6_notThere_0 rfl ?_
  refine jx_callSi E [vI sh] [] (c_X6_isSheet l G (wsM G b y) (sh := sh) (by unfold inR; omega)) mb_X6_isSheet ms_X6_isSheet wl_X6_210 dX6_notThere_1 ?_
  refine jx_if_ne (tgt := 12) E dX6_notThere_4 (by decide) (fun c1 => ?_) (fun c1 => ?_)
  · skip
    refine jx_aload_n E 0 dX6_notThere_12 rfl ?_
    refine jx_get E f_X6 12 (v := .ref (b 6)) wm_obj (by decide) wf_X6_25 rfl dX6_notThere_13 ?_
    refine jx_iload_n E 1 dX6_notThere_16 rfl ?_
    refine jx_iald E (v := (y 5) sh) wm_bits (row0_at (by omega) (by omega)) (by omega) (by omega) (by decide) dX6_notThere_17 ?_
    refine jx_if_ne (tgt := 26) E dX6_notThere_18 (by decide) (fun c2 => ?_) (fun c2 => ?_)
    · skip
      refine jx_iconst E dX6_notThere_26 ?_
      exact jx_iret E hr dX6_notThere_27 (by simp only [nthR]; omega) (by first | rfl | (congr 1; done))
    · skip
      refine jx_ldc E wc_X6_214 dX6_notThere_21 ?_
      refine jx_goto (tgt := 27) E dX6_notThere_23 (by decide) ?_
      exact jx_iret E hr dX6_notThere_27 (by simp only [nthR]; omega) (by first | rfl | (congr 1; done))
  · skip
    refine jx_ldc E wc_X6_35 dX6_notThere_7 ?_
    refine jx_goto (tgt := 27) E dX6_notThere_9 (by decide) ?_
    exact jx_iret E hr dX6_notThere_27 (by simp only [nthR]; omega) (by first | rfl | (congr 1; done))
set_option maxHeartbeats 4000000 in
theorem c_X6_cutTo (l : Launch) (G : GT) (ws : va_W) {q v : Int} (h1 : inR q) (h2 : inL v) : CtL l G yX6_cutTo cX6_cutTo 3 (some .long) 1 [vI q, vL v] ws (cutP q v) ws := by
  have b8 := bm8 v
  have b16 := bm16 v
  unfold inR at h1
  refine CtL.of (by decide) (Nat.le_of_ble_eq_true rfl) ?_
  intro p e s m args below meth c A E hr
  refine jx_lv (lv' := [(0, vI q), (1, vL v)]) [0, 1] rfl ?_
  refine jx_iload_n E 0 dX6_cutTo_0 rfl ?_
  refine jx_bipush E dX6_cutTo_1 ?_
  refine jx_icmp_ne (tgt := 13) E dX6_cutTo_3 (by decide) (fun c1 => ?_) (fun c1 => ?_)
  · skip
    refine jx_iload_n E 0 dX6_cutTo_13 rfl ?_
    refine jx_bipush E dX6_cutTo_14 ?_
    refine jx_icmp_ne (tgt := 26) E dX6_cutTo_16 (by decide) (fun c2 => ?_) (fun c2 => ?_)
    · skip
      refine jx_lload_n E 1 dX6_cutTo_26 rfl ?_
      exact jx_lret E hr dX6_cutTo_27 (by simp only [cutP]; omega) (by first | rfl | (congr 1; done))
    · skip
      refine jx_lload_n E 1 dX6_cutTo_19 rfl ?_
      refine jx_l2i E dX6_cutTo_20 ?_
      refine jx_i2s E dX6_cutTo_21 ?_
      refine jx_i2l E dX6_cutTo_22 ?_
      refine jx_goto (tgt := 27) E dX6_cutTo_23 (by decide) ?_
      exact jx_lret E hr dX6_cutTo_27 (by simp only [cutP]; omega) (by first | rfl | (congr 1; done))
  · skip
    refine jx_lload_n E 1 dX6_cutTo_6 rfl ?_
    refine jx_l2i E dX6_cutTo_7 ?_
    refine jx_i2b E dX6_cutTo_8 ?_
    refine jx_i2l E dX6_cutTo_9 ?_
    refine jx_goto (tgt := 27) E dX6_cutTo_10 (by decide) ?_
    exact jx_lret E hr dX6_cutTo_27 (by simp only [cutP]; omega) (by first | rfl | (congr 1; done))
set_option maxHeartbeats 4000000 in
theorem c_X6_write (l : Launch) (G : GT) (b : Nat → Nat) (y : MS) {sh i v : Int} (h1 : VT 99999 (y 0)) (h2 : VSM y) (h3 : inR sh) (h4 : inR i) (h5 : inL v) : CtL l G yX6_write cX6_write 8 (some .long) 4 [.ref (b 0), vI sh, vI i, vL v] (wsM G b y) (if whyW (y 5 sh) (y 6 sh) sh i ≠ 0 then whyW (y 5 sh) (y 6 sh) sh i else y 7 (40 * sh + i)) (wsM G b (if whyW (y 5 sh) (y 6 sh) sh i ≠ 0 then setc y 3 (tallyP (y 3) (whyW (y 5 sh) (y 6 sh) sh i)) else setc y 7 (updI (y 7) (40 * sh + i) (cutP (y 5 sh) v)))) := by
  obtain ⟨-, v4⟩ : True ∧ (0 ≤ y 0 4 ∧ y 0 4 ≤ 8) := ⟨trivial, h1.2.2.2.2.1⟩
  unfold inR at h3 h4
  have hbs : vSheet sh → vBits (y 5 sh) := fun q => (h2 sh q.1 q.2).1
  have hzs : vSheet sh → 0 ≤ y 6 sh ∧ y 6 sh ≤ 40 := fun q => ⟨(h2 sh q.1 q.2).2.1, (h2 sh q.1 q.2).2.2.1⟩
  have hnt := nth_in (y 5 sh) sh
  have hnv : nthR (y 5 sh) sh = 0 → vSheet sh ∧ y 5 sh ≠ 0 := by unfold nthR; omega
  refine CtL.of (by decide) (Nat.le_of_ble_eq_true rfl) ?_
  intro p e s m args below meth c A E hr
  refine jx_lv (lv' := [(0, .ref (b 0)), (1, vI sh), (2, vI i), (3, vL v)]) [0, 1, 2, 3] rfl ?_
  refine jx_aload_n E 0 dX6_write_0 rfl ?_
  refine jx_iload_n E 1 dX6_write_1 rfl ?_
  refine jx_callVi E [vI sh] [] (c_X6_notThere l G b y (sh := sh) (by unfold inR; omega) hbs) mb_X6_notThere mv_X6_notThere wl_X6_215 f_X6 wm_obj dX6_write_2 ?_
  refine jx_istore E dX6_write_5 (by decide) [(5, vI (nthR ((y 5) sh) sh)), (0, .ref (b 0)), (1, vI sh), (2, vI i), (3, vL v)] rfl ?_
  have JN33 : ∀ (u : Int), (u = whyW (y 5 sh) (y 6 sh) sh i) → JX p l e (rmL 4) s m args below meth c 8 G A 0 0 (QL below args s G A (if whyW (y 5 sh) (y 6 sh) sh i ≠ 0 then whyW (y 5 sh) (y 6 sh) sh i else y 7 (40 * sh + i)) (wsM G b (if whyW (y 5 sh) (y 6 sh) sh i ≠ 0 then setc y 3 (tallyP (y 3) (whyW (y 5 sh) (y 6 sh) sh i)) else setc y 7 (updI (y 7) (40 * sh + i) (cutP (y 5 sh) v))))) (wsM G b y) 33 [(5, vI u), (0, .ref (b 0)), (1, vI sh), (2, vI i), (3, vL v)] [] := by
    intro u hu
    have hwi : whyW (y 5 sh) (y 6 sh) sh i = 0 ∨ whyW (y 5 sh) (y 6 sh) sh i = -1000000001 ∨ whyW (y 5 sh) (y 6 sh) sh i = -1000000006 := by simp only [whyW]; omega
    have hwv : whyW (y 5 sh) (y 6 sh) sh i = 0 → vSheet sh ∧ y 5 sh ≠ 0 ∧ 0 ≤ i ∧ i < y 6 sh := by simp only [whyW]; omega
    refine jx_iload E 0 dX6_write_33 rfl ?_
    refine jx_if_eq (tgt := 46) E dX6_write_35 (by decide) (fun c1 => ?_) (fun c1 => ?_)
    · skip
      refine jx_aload_n E 1 dX6_write_46 rfl ?_
      refine jx_get E f_X6 14 (v := .ref (b 8)) wm_obj (by decide) wf_X6_31 rfl dX6_write_47 ?_
      refine jx_bipush E dX6_write_50 ?_
      refine jx_iload_n E 2 dX6_write_52 rfl ?_
      refine jx_imul E dX6_write_53 ?_
      refine jx_iload_n E 3 dX6_write_54 rfl ?_
      refine jx_iadd E dX6_write_55 ?_
      refine jx_lald E (v := (y 7) ((40 * sh) + i)) wm_cells (row0L_at (by omega) (by omega)) (by omega) (by omega) (by decide) dX6_write_56 ?_
      refine jx_lstore E dX6_write_57 (by decide) [(6, vL ((y 7) ((40 * sh) + i))), (5, vI u), (0, .ref (b 0)), (1, vI sh), (2, vI i), (3, vL v)] rfl ?_
      refine jx_aload_n E 2 dX6_write_59 rfl ?_
      refine jx_get E f_X6 14 (v := .ref (b 8)) wm_obj (by decide) wf_X6_31 rfl dX6_write_60 ?_
      refine jx_bipush E dX6_write_63 ?_
      refine jx_iload_n E 3 dX6_write_65 rfl ?_
      refine jx_imul E dX6_write_66 ?_
      refine jx_iload_n E 4 dX6_write_67 rfl ?_
      refine jx_iadd E dX6_write_68 ?_
      refine jx_aload_n E 2 dX6_write_69 rfl ?_
      refine jx_get E f_X6 12 (v := .ref (b 6)) wm_obj (by decide) wf_X6_25 rfl dX6_write_70 ?_
      refine jx_iload_n E 3 dX6_write_73 rfl ?_
      refine jx_iald E (v := (y 5) sh) wm_bits (row0_at (by omega) (by omega)) (by omega) (by omega) (by decide) dX6_write_74 ?_
      refine jx_lload_n E 5 dX6_write_75 rfl ?_
      refine jx_callSl E [vI ((y 5) sh), vL v] [vI ((40 * sh) + i), .ref (b 8)] (c_X6_cutTo l G (wsM G b y) (q := (y 5) sh) (v := v) (by unfold inR; omega) h5) mb_X6_cutTo ms_X6_cutTo wl_X6_218 dX6_write_76 ?_
      refine jx_last E wm_cells (wq_cells (by omega) (by omega)) (by omega) (by omega) (by decide) dX6_write_79 ?_
      refine jx_lload E 0 dX6_write_80 rfl ?_
      exact jx_lret E hr dX6_write_82 (by omega) (by subst hu; first | (rw [if_pos (by omega)]; done) | (rw [if_neg (by omega)]; done))
    · skip
      refine jx_aload_n E 1 dX6_write_38 rfl ?_
      refine jx_iload E 0 dX6_write_39 rfl ?_
      refine jx_callVi E [vI u] [] (c_X6_finds l G b y (f := u) (by omega)) mb_X6_finds mv_X6_finds wl_X6_37 f_X6 wm_obj dX6_write_41 ?_
      refine jx_i2l E dX6_write_44 ?_
      exact jx_lret E hr dX6_write_45 (by omega) (by subst hu; first | (rw [if_pos (by omega)]; done) | (rw [if_neg (by omega)]; done))
  refine jx_iload E 0 dX6_write_7 rfl ?_
  refine jx_if_ne (tgt := 33) E dX6_write_9 (by decide) (fun c2 => ?_) (fun c2 => ?_)
  · skip
    exact JN33 _ (by simp only [whyW]; omega)
  · skip
    refine jx_iload_n E 3 dX6_write_12 rfl ?_
    refine jx_i2l E dX6_write_13 ?_
    refine jx_iconst E dX6_write_14 ?_
    refine jx_aload_n E 1 dX6_write_15 rfl ?_
    refine jx_get E f_X6 13 (v := .ref (b 7)) wm_obj (by decide) wf_X6_28 rfl dX6_write_16 ?_
    refine jx_iload_n E 2 dX6_write_19 rfl ?_
    refine jx_iald E (v := (y 6) sh) wm_size (row0_at (by omega) (by omega)) (by omega) (by omega) (by decide) dX6_write_20 ?_
    refine jx_iconst E dX6_write_21 ?_
    refine jx_isub E dX6_write_22 ?_
    refine jx_callSi E [vL i, vI 0, vI (((y 6) sh) - 1)] [] (c_X6_in l G (wsM G b y) (v := i) (lo := 0) (hi := ((y 6) sh) - 1) (by unfold inL; omega) (by unfold inR; omega) (by unfold inR; omega)) mb_X6_in ms_X6_in wl_X6_41 dX6_write_23 ?_
    refine jx_if_ne (tgt := 33) E dX6_write_26 (by decide) (fun c3 => ?_) (fun c3 => ?_)
    · skip
      exact JN33 _ (by simp only [whyW]; omega)
    · skip
      refine jx_ldc E wc_X6_35 dX6_write_29 ?_
      refine jx_istore E dX6_write_31 (by decide) [(5, vI (-1000000001)), (0, .ref (b 0)), (1, vI sh), (2, vI i), (3, vL v)] rfl ?_
      exact JN33 _ (by simp only [whyW]; omega)
set_option maxHeartbeats 4000000 in
theorem c_X6_lays (l : Launch) (G : GT) (b : Nat → Nat) (y : MS) {sh : Int} (h1 : VT 99999 (y 0)) (h2 : VSM y) (h3 : inR sh) : CtI l G yX6_lays cX6_lays 5 (some .int) 4 [.ref (b 0), vI sh] (wsM G b y) (if nthR (y 5 sh) sh ≠ 0 then nthR (y 5 sh) sh else layC (shM y sh) (laysN (y 6 sh))) (wsM G b (endM (if nthR (y 5 sh) sh = 0 then setc y 0 (layT (shM y sh) (y 0) (laysN (y 6 sh))) else y) (if nthR (y 5 sh) sh ≠ 0 then nthR (y 5 sh) sh else layC (shM y sh) (laysN (y 6 sh))))) := by
  obtain ⟨-, v4⟩ : True ∧ (0 ≤ y 0 4 ∧ y 0 4 ≤ 8) := ⟨trivial, h1.2.2.2.2.1⟩
  unfold inR at h3
  have hbs : vSheet sh → vBits (y 5 sh) := fun q => (h2 sh q.1 q.2).1
  have hzs : vSheet sh → 0 ≤ y 6 sh ∧ y 6 sh ≤ 40 := fun q => ⟨(h2 sh q.1 q.2).2.1, (h2 sh q.1 q.2).2.2.1⟩
  have hnt := nth_in (y 5 sh) sh
  have hnv : nthR (y 5 sh) sh = 0 → vSheet sh ∧ y 5 sh ≠ 0 := by unfold nthR; omega
  refine CtI.of (by decide) (Nat.le_of_ble_eq_true rfl) ?_
  intro p e s m args below meth c A E hr
  refine jx_lv (lv' := [(0, .ref (b 0)), (1, vI sh)]) [0, 1] rfl ?_
  refine jx_aload_n E 0 dX6_lays_0 rfl ?_
  refine jx_iload_n E 1 dX6_lays_1 rfl ?_
  refine jx_callVi E [vI sh] [] (c_X6_notThere l G b y (sh := sh) (by unfold inR; omega) hbs) mb_X6_notThere mv_X6_notThere wl_X6_215 f_X6 wm_obj dX6_lays_2 ?_
  refine jx_istore_n E dX6_lays_5 (by decide) [(2, vI (nthR ((y 5) sh) sh)), (0, .ref (b 0)), (1, vI sh)] rfl ?_
  refine jx_iload_n E 0 dX6_lays_6 rfl ?_
  refine jx_if_eq (tgt := 16) E dX6_lays_7 (by decide) (fun c1 => ?_) (fun c1 => ?_)
  · skip
    refine jx_iconst E dX6_lays_16 ?_
    refine jx_istore_n E dX6_lays_17 (by decide) [(3, vI 0), (2, vI (nthR ((y 5) sh) sh)), (0, .ref (b 0)), (1, vI sh)] rfl ?_
    refine jx_iconst E dX6_lays_18 ?_
    refine jx_istore E dX6_lays_19 (by decide) [(4, vI 0), (3, vI 0), (2, vI (nthR ((y 5) sh) sh)), (0, .ref (b 0)), (1, vI sh)] rfl ?_
    have LP21 : ∀ (n2 : Nat) (k : Nat), ((k : Int) ≤ min (y 6 sh) 8) → (8 - (k : Int) < n2) → JX p l e (rmL 4) s m args below meth c 5 G A 0 0 (QI below args s G A (if nthR (y 5 sh) sh ≠ 0 then nthR (y 5 sh) sh else layC (shM y sh) (laysN (y 6 sh))) (wsM G b (endM (if nthR (y 5 sh) sh = 0 then setc y 0 (layT (shM y sh) (y 0) (laysN (y 6 sh))) else y) (if nthR (y 5 sh) sh ≠ 0 then nthR (y 5 sh) sh else layC (shM y sh) (laysN (y 6 sh)))))) (wsM G b (setc y 0 (layT (shM y sh) (y 0) k))) 21 [(4, vI (k : Int)), (3, vI (layC (shM y sh) k)), (2, vI (nthR ((y 5) sh) sh)), (0, .ref (b 0)), (1, vI sh)] [] := by
      intro n2
      induction n2 with
      | zero => intro k q1 q2; exfalso; omega
      | succ n2 ih =>
        intro k q1 q2
        refine jx_iload E 0 dX6_lays_21 rfl ?_
        refine jx_aload_n E 3 dX6_lays_23 rfl ?_
        refine jx_get E f_X6 13 (v := .ref (b 7)) wm_obj (by decide) wf_X6_28 rfl dX6_lays_24 ?_
        refine jx_iload_n E 4 dX6_lays_27 rfl ?_
        refine jx_iald E (v := (y 6) sh) wm_size (row0_at (by omega) (by omega)) (by omega) (by omega) (by decide) dX6_lays_28 ?_
        refine jx_icmp_ge (tgt := 91) E dX6_lays_29 (by decide) (fun c2 => ?_) (fun c2 => ?_)
        · skip
          refine jx_iload_n E 1 dX6_lays_91 rfl ?_
          exact jx_iret E hr dX6_lays_92 (by rw [if_neg (by omega), show k = laysN (y 6 sh) by unfold laysN; omega]) (by have hl := layC_in (shM y sh) (laysN (y 6 sh)); rw [if_neg (show ¬ nthR (y 5 sh) sh ≠ 0 by omega), if_pos (show nthR (y 5 sh) sh = 0 by omega), endM_n (by omega), show k = laysN (y 6 sh) by unfold laysN; omega])
        · skip
          refine jx_iload E 0 dX6_lays_32 rfl ?_
          refine jx_bipush E dX6_lays_34 ?_
          refine jx_icmp_ge (tgt := 91) E dX6_lays_36 (by decide) (fun c3 => ?_) (fun c3 => ?_)
          · skip
            refine jx_iload_n E 1 dX6_lays_91 rfl ?_
            exact jx_iret E hr dX6_lays_92 (by rw [if_neg (by omega), show k = laysN (y 6 sh) by unfold laysN; omega]) (by have hl := layC_in (shM y sh) (laysN (y 6 sh)); rw [if_neg (show ¬ nthR (y 5 sh) sh ≠ 0 by omega), if_pos (show nthR (y 5 sh) sh = 0 by omega), endM_n (by omega), show k = laysN (y 6 sh) by unfold laysN; omega])
          · skip
            have hin : inL (y 7 (40 * sh + (k : Int))) := (h2 sh (by omega) (by omega)).2.2.2.2 k (by omega) (by omega)
            refine jx_aload_n E 3 dX6_lays_39 rfl ?_
            refine jx_get E f_X6 14 (v := .ref (b 8)) wm_obj (by decide) wf_X6_31 rfl dX6_lays_40 ?_
            refine jx_bipush E dX6_lays_43 ?_
            refine jx_iload_n E 4 dX6_lays_45 rfl ?_
            refine jx_imul E dX6_lays_46 ?_
            refine jx_iload E 0 dX6_lays_47 rfl ?_
            refine jx_iadd E dX6_lays_49 ?_
            refine jx_lald E (v := (y 7) ((40 * sh) + (k : Int))) wm_cells (row0L_at (by omega) (by omega)) (by omega) (by omega) (by decide) dX6_lays_50 ?_
            refine jx_iconst E dX6_lays_51 ?_
            refine jx_bipush E dX6_lays_52 ?_
            refine jx_callSi E [vL ((y 7) ((40 * sh) + (k : Int))), vI 0, vI 99] [] (c_X6_in l G (wsM G b (setc y 0 (layT (shM y sh) (y 0) k))) (v := (y 7) ((40 * sh) + (k : Int))) (lo := 0) (hi := 99) hin (by unfold inR; omega) (by unfold inR; omega)) mb_X6_in ms_X6_in wl_X6_41 dX6_lays_54 ?_
            refine jx_st (st' := [vI (if 0 ≤ (y 7) ((40 * sh) + (k : Int)) ∧ (y 7) ((40 * sh) + (k : Int)) ≤ 99 then 1 else 0)]) (by first | rfl | (simp only [setc_at]; done) | (simp only [setc_at]; rfl)) ?_
            refine jx_if_eq (tgt := 85) E dX6_lays_57 (by decide) (fun c4 => ?_) (fun c4 => ?_)
            · skip
              refine jx_iinc E 0 dX6_lays_85 rfl (by decide) [(4, vI ((k : Int) + 1)), (3, vI (layC (shM y sh) k)), (2, vI (nthR ((y 5) sh) sh)), (0, .ref (b 0)), (1, vI sh)] rfl ?_
              refine jx_goto (tgt := 21) E dX6_lays_88 (by decide) ?_
              refine jx_eq (ws' := wsM G b (setc y 0 (layT (shM y sh) (y 0) (k + 1)))) (by first | (rw [layT, if_pos (show 0 ≤ shM y sh k ∧ shM y sh k ≤ 99 by unfold shM; omega)]; rfl) | (rw [layT, if_neg (show ¬ (0 ≤ shM y sh k ∧ shM y sh k ≤ 99) by unfold shM; omega)])) ?_
              refine jx_lve (lv' := [(4, vI ((k : Int) + 1)), (3, vI (layC (shM y sh) (k + 1))), (2, vI (nthR (y 5 sh) sh)), (0, .ref (b 0)), (1, vI sh)]) (by first | (rw [layC, if_pos (show 0 ≤ shM y sh k ∧ shM y sh k ≤ 99 by unfold shM; omega)]; done) | (rw [layC, if_neg (show ¬ (0 ≤ shM y sh k ∧ shM y sh k ≤ 99) by unfold shM; omega)]; done)) ?_
              exact ih (k + 1) (by omega) (by omega)
            · skip
              refine jx_aload_n E 3 dX6_lays_60 rfl ?_
              refine jx_get E f_X6 0 (v := .ref (b 1)) wm_obj (by decide) wf_X6_9 rfl dX6_lays_61 ?_
              refine jx_iconst E dX6_lays_64 ?_
              refine jx_iload E 0 dX6_lays_65 rfl ?_
              refine jx_iadd E dX6_lays_67 ?_
              refine jx_aload_n E 3 dX6_lays_68 rfl ?_
              refine jx_get E f_X6 14 (v := .ref (b 8)) wm_obj (by decide) wf_X6_31 rfl dX6_lays_69 ?_
              refine jx_bipush E dX6_lays_72 ?_
              refine jx_iload_n E 4 dX6_lays_74 rfl ?_
              refine jx_imul E dX6_lays_75 ?_
              refine jx_iload E 0 dX6_lays_76 rfl ?_
              refine jx_iadd E dX6_lays_78 ?_
              refine jx_lald E (v := (y 7) ((40 * sh) + (k : Int))) wm_cells (row0L_at (by omega) (by omega)) (by omega) (by omega) (by decide) dX6_lays_79 ?_
              refine jx_l2i E dX6_lays_80 ?_
              refine jx_iast E wm_m (wq_m (by omega) (by omega)) (by omega) (by omega) (by decide) dX6_lays_81 ?_
              refine jx_eq (ws' := wsM G b (setc y 0 (updI (layT (shM y sh) (y 0) k) (5 + (k : Int)) ((y 7) ((40 * sh) + (k : Int)))))) (congrArg (wsM G b) (by first | rfl | (rw [setc_setc]; rfl) | (simp only [setc_setc, setc_at]; done) | (simp only [setc_setc, setc_at]; rfl) | (funext d; simp only [setc_app]; (repeat' split) <;> first | rfl | omega | simp_all))) ?_
              refine jx_iinc E 1 dX6_lays_82 rfl (by decide) [(3, vI (layC (shM y sh) k + 1)), (4, vI (k : Int)), (2, vI (nthR ((y 5) sh) sh)), (0, .ref (b 0)), (1, vI sh)] rfl ?_
              refine jx_iinc E 1 dX6_lays_85 rfl (by decide) [(4, vI ((k : Int) + 1)), (3, vI (layC (shM y sh) k + 1)), (2, vI (nthR ((y 5) sh) sh)), (0, .ref (b 0)), (1, vI sh)] rfl ?_
              refine jx_goto (tgt := 21) E dX6_lays_88 (by decide) ?_
              refine jx_eq (ws' := wsM G b (setc y 0 (layT (shM y sh) (y 0) (k + 1)))) (by first | (rw [layT, if_pos (show 0 ≤ shM y sh k ∧ shM y sh k ≤ 99 by unfold shM; omega)]; rfl) | (rw [layT, if_neg (show ¬ (0 ≤ shM y sh k ∧ shM y sh k ≤ 99) by unfold shM; omega)])) ?_
              refine jx_lve (lv' := [(4, vI ((k : Int) + 1)), (3, vI (layC (shM y sh) (k + 1))), (2, vI (nthR (y 5 sh) sh)), (0, .ref (b 0)), (1, vI sh)]) (by first | (rw [layC, if_pos (show 0 ≤ shM y sh k ∧ shM y sh k ≤ 99 by unfold shM; omega)]; done) | (rw [layC, if_neg (show ¬ (0 ≤ shM y sh k ∧ shM y sh k ≤ 99) by unfold shM; omega)]; done)) ?_
              exact ih (k + 1) (by omega) (by omega)
    refine jx_eq (ws' := wsM G b (setc y 0 (y 0))) (congrArg (wsM G b) (setc_self y 0).symm) ?_
    exact LP21 9 0 (by omega) (by omega)
  · skip
    refine jx_aload_n E 1 dX6_lays_10 rfl ?_
    refine jx_iload_n E 0 dX6_lays_11 rfl ?_
    refine jx_callVi E [vI (nthR ((y 5) sh) sh)] [] (c_X6_finds l G b y (f := nthR ((y 5) sh) sh) (by omega)) mb_X6_finds mv_X6_finds wl_X6_37 f_X6 wm_obj dX6_lays_12 ?_
    exact jx_iret E hr dX6_lays_15 (by rw [if_pos (by omega)]) (by rw [if_pos (show nthR (y 5 sh) sh ≠ 0 by omega), if_neg (show ¬ nthR (y 5 sh) sh = 0 by omega), endM_f (by omega)])
