/-! 40.x9: laid by the walker out of specX9 -/
theorem feedX_0 (x : MS) (v n : Int) (h : 0 ≤ n) : x = setc (setc x 3 (feedP (x 3) (x 9 1) v n (n - ((n.toNat : Nat) : Int)))) 9 (updI (x 9) 1 (x 9 1 + (n - ((n.toNat : Nat) : Int)))) := by
  have e : n - ((n.toNat : Nat) : Int) = 0 := by omega
  rw [e, Int.add_zero]
  have e1 : feedP (x 3) (x 9 1) v n 0 = x 3 := by funext q; simp only [feedP]; rw [if_neg (by omega)]
  have e2 : updI (x 9) 1 (x 9 1) = x 9 := by funext q; simp only [updI_app]; split <;> simp_all
  rw [e1, e2, setc_self, setc_self]
theorem feedX_1 (x : MS) (v n : Int) (k : Nat) (h : ((k + 1 : Nat) : Int) ≤ n) : setc (setc x 3 (updI (feedP (x 3) (x 9 1) v n (n - ((k + 1 : Nat) : Int))) (x 9 1 + (n - ((k + 1 : Nat) : Int))) (byteP v (k + 1 - 1)))) 9 (updI (updI (x 9) 1 (x 9 1 + (n - ((k + 1 : Nat) : Int)))) 1 (x 9 1 + (n - ((k + 1 : Nat) : Int)) + 1)) = setc (setc x 3 (feedP (x 3) (x 9 1) v n (n - (k : Int)))) 9 (updI (x 9) 1 (x 9 1 + (n - (k : Int)))) := by
  have e1 : updI (feedP (x 3) (x 9 1) v n (n - ((k + 1 : Nat) : Int))) (x 9 1 + (n - ((k + 1 : Nat) : Int))) (byteP v (k + 1 - 1)) = feedP (x 3) (x 9 1) v n (n - (k : Int)) := by
    funext q
    simp only [updI_app, feedP]
    by_cases hq : q = x 9 1 + (n - ((k + 1 : Nat) : Int))
    · rw [if_pos hq, if_pos (by omega), show (n - 1 - (q - x 9 1)).toNat = k + 1 - 1 by omega]
    · rw [if_neg hq]
      (repeat' split) <;> first | rfl | (exfalso; omega)
  have e2 : updI (updI (x 9) 1 (x 9 1 + (n - ((k + 1 : Nat) : Int)))) 1 (x 9 1 + (n - ((k + 1 : Nat) : Int)) + 1) = updI (x 9) 1 (x 9 1 + (n - (k : Int))) := by
    funext q
    simp only [updI_app]
    split
    · omega
    · rfl
  rw [e1, e2]
theorem byte_in (v : Int) (k : Nat) : 0 ≤ byteP v k ∧ byteP v k < 256 := by unfold byteP; omega
theorem VS_book {b z a d : Int} {u t : Int → Int} (h : VS b z (fun q => u (a + q))) (hV : VT d t) (k : Int) : VS b z (fun q => bookP u a b t k (a + q)) := by
  obtain ⟨z1, z2, z3, z4, z5⟩ := h
  refine ⟨z1, z2, z3, z4, fun q a1 a2 => ?_⟩
  simp only [bookP]
  split
  · have := (VT_days hV (a + q - a).toNat).2.1
    exact cut_in (by unfold inL; omega)
  · exact z5 q a1 a2
set_option maxHeartbeats 4000000 in
theorem c_X5_feed (l : Launch) (G : GT) (a : Nat → Nat) (x : MS) {v n : Int} (h1 : inR v) (h2 : inR n) (h3 : 0 ≤ x 9 1 ∧ x 9 1 ≤ 120) : CtI l G yX5_feed cX5_feed 4 (some .int) 2 [.ref (a 0), vI v, vI n] (wsX G a x) (feedR (x 9 1) n) (wsX G a (endX (if (1 ≤ n ∧ n ≤ 4) ∧ x 9 1 + n ≤ 120 then setc (setc x 3 (feedP (x 3) (x 9 1) v n n)) 9 (updI (x 9) 1 (x 9 1 + n)) else x) (feedR (x 9 1) n))) := by
  have hv9 := h1
  unfold inR at h1 h2
  refine CtI.of (by decide) (Nat.le_of_ble_eq_true rfl) ?_
  intro p e s m args below meth c A E hr
  refine jx_lv (lv' := [(0, .ref (a 0)), (1, vI v), (2, vI n)]) [0, 1, 2] rfl ?_
  refine jx_iload_n E 2 dX5_feed_0 rfl ?_
  refine jx_iconst E dX5_feed_1 ?_
  refine jx_icmp_lt (tgt := 10) E dX5_feed_2 (by decide) (fun c1 => ?_) (fun c1 => ?_)
  · skip
    refine jx_aload_n E 0 dX5_feed_10 rfl ?_
    refine jx_ldc E wc_X5_53 dX5_feed_11 ?_
    refine jx_callVi E [vI (-1000000001)] [] (c_X5_found l G a x (f := (-1000000001)) (by omega)) mb_X5_found mv_X5_found wl_X5_54 f_X5 wx_obj dX5_feed_13 ?_
    exact jx_iret E hr dX5_feed_16 (by simp only [feedR]; omega) (by rw [show feedR (x 9 1) n = (-1000000001) from by simp only [feedR]; omega, if_neg (show ¬ ((1 ≤ n ∧ n ≤ 4) ∧ x 9 1 + n ≤ 120) by omega), endX_f (by decide)])
  · skip
    refine jx_iload_n E 2 dX5_feed_5 rfl ?_
    refine jx_iconst E dX5_feed_6 ?_
    refine jx_icmp_le (tgt := 17) E dX5_feed_7 (by decide) (fun c2 => ?_) (fun c2 => ?_)
    · skip
      refine jx_aload_n E 0 dX5_feed_17 rfl ?_
      refine jx_get E f_X5 4 (v := .ref (a 37)) wx_obj (by decide) wf_X5_29 rfl dX5_feed_18 ?_
      refine jx_get E f_X2 1 (v := vI ((x 9) 1)) wx_tape (by decide) wf_X5_192 rfl dX5_feed_21 ?_
      refine jx_iload_n E 2 dX5_feed_24 rfl ?_
      refine jx_iadd E dX5_feed_25 ?_
      refine jx_bipush E dX5_feed_26 ?_
      refine jx_icmp_le (tgt := 38) E dX5_feed_28 (by decide) (fun c3 => ?_) (fun c3 => ?_)
      · skip
        refine jx_iload_n E 2 dX5_feed_38 rfl ?_
        refine jx_iconst E dX5_feed_39 ?_
        refine jx_isub E dX5_feed_40 ?_
        refine jx_istore_n E dX5_feed_41 (by decide) [(3, vI (n - 1)), (0, .ref (a 0)), (1, vI v), (2, vI n)] rfl ?_
        have LP42 : ∀ (n2 : Nat) (k : Nat), ((k : Int) ≤ n) → (k < n2) → JX p l e (rmL 2) s m args below meth c 4 G A 0 0 (QI below args s G A (feedR (x 9 1) n) (wsX G a (endX (if (1 ≤ n ∧ n ≤ 4) ∧ x 9 1 + n ≤ 120 then setc (setc x 3 (feedP (x 3) (x 9 1) v n n)) 9 (updI (x 9) 1 (x 9 1 + n)) else x) (feedR (x 9 1) n)))) (wsX G a (setc (setc x 3 (feedP (x 3) (x 9 1) v n (n - (k : Int)))) 9 (updI (x 9) 1 (x 9 1 + (n - (k : Int)))))) 42 [(3, vI ((k : Int) - 1)), (0, .ref (a 0)), (1, vI v), (2, vI n)] [] := by
          intro n2
          induction n2 with
          | zero => intro k q1 q2; exfalso; omega
          | succ n2 ih =>
            intro k q1 q2
            refine jx_iload_n E 0 dX5_feed_42 rfl ?_
            refine jx_if_lt (tgt := 65) E dX5_feed_43 (by decide) (fun c4 => ?_) (fun c4 => ?_)
            · skip
              refine jx_aload_n E 1 dX5_feed_65 rfl ?_
              refine jx_get E f_X5 4 (v := .ref (a 37)) wx_obj (by decide) wf_X5_29 rfl dX5_feed_66 ?_
              refine jx_get E f_X2 1 (v := vI ((updI (x 9) 1 (x 9 1 + (n - (k : Int)))) 1)) wx_tape (by decide) wf_X5_192 (by first | rfl | (simp only [setc_at, List.getElem?_cons_zero, List.getElem?_cons_succ]; done) | (simp [setc_at]; done)) dX5_feed_69 ?_
              exact jx_iret E hr dX5_feed_72 (by simp only [feedR]; rw [updI_at]; omega) (by rw [show feedR (x 9 1) n = x 9 1 + n from by simp only [feedR]; omega, if_pos (show (1 ≤ n ∧ n ≤ 4) ∧ x 9 1 + n ≤ 120 by omega), endX_n (by omega), show (k : Int) = 0 by omega, Int.sub_zero])
            · skip
              have ev : updI (x 9) 1 (x 9 1 + (n - (k : Int))) 1 = x 9 1 + (n - (k : Int)) := updI_at _ _ _
              have hz8 : (iI (((iI v).toUInt32 >>> ((iI (8 * ((k : Int) - 1))).toUInt32 &&& Int32.toUInt32 31)).toInt32).toInt &&& iI 255).toInt = byteP v (k - 1) := by
                have h := byte_X v hv9 (k - 1) (by omega)
                rw [show (((k - 1 : Nat)) : Int) = (k : Int) - 1 by omega] at h
                have hb := byte_in v (k - 1)
                rw [h, iI_toInt ⟨by omega, by omega⟩]
              refine jx_aload_n E 1 dX5_feed_46 rfl ?_
              refine jx_get E f_X5 4 (v := .ref (a 37)) wx_obj (by decide) wf_X5_29 rfl dX5_feed_47 ?_
              refine jx_iload_n E 2 dX5_feed_50 rfl ?_
              refine jx_bipush E dX5_feed_51 ?_
              refine jx_iload_n E 0 dX5_feed_53 rfl ?_
              refine jx_imul E dX5_feed_54 ?_
              refine jx_iushr E (z := (((iI v).toUInt32 >>> ((iI (8 * ((k : Int) - 1))).toUInt32 &&& Int32.toUInt32 31)).toInt32).toInt) dX5_feed_55 (iI_of _) ?_
              refine jx_callVv E [vI ((((iI v).toUInt32 >>> ((iI (8 * ((k : Int) - 1))).toUInt32 &&& Int32.toUInt32 31)).toInt32).toInt)] [] (c_X2_add l G a (setc (setc x 3 (feedP (x 3) (x 9 1) v n (n - (k : Int)))) 9 (updI (x 9) 1 (x 9 1 + (n - (k : Int))))) (v := (((iI v).toUInt32 >>> ((iI (8 * ((k : Int) - 1))).toUInt32 &&& Int32.toUInt32 31)).toInt32).toInt) (show 0 ≤ updI (x 9) 1 (x 9 1 + (n - (k : Int))) 1 ∧ updI (x 9) 1 (x 9 1 + (n - (k : Int))) 1 < 120 by rw [ev]; omega)) mb_X2_add mv_X2_add wl_X5_195 f_X2 wx_tape dX5_feed_56 ?_
              refine jx_eq (ws' := wsX G a (setc (setc x 3 (updI (feedP (x 3) (x 9 1) v n (n - (k : Int))) ((updI (x 9) 1 (x 9 1 + (n - (k : Int)))) 1) (iI ((((iI v).toUInt32 >>> ((iI (8 * ((k : Int) - 1))).toUInt32 &&& Int32.toUInt32 31)).toInt32).toInt) &&& iI 255).toInt)) 9 (updI (updI (x 9) 1 (x 9 1 + (n - (k : Int)))) 1 ((updI (x 9) 1 (x 9 1 + (n - (k : Int)))) 1 + 1)))) (congrArg (wsX G a) (by first | rfl | (rw [setc_setc]; rfl) | exact setc_in _ _ _ _ (by decide) | exact setc_in2 _ _ _ _ _ (by decide) (by decide) | (rw [setc_in _ _ _ _ (by decide), setc_in _ _ _ _ (by decide)]; rfl) | (rw [setc_in _ _ _ _ (by decide), setc_setc]; rfl) | (simp only [setc_setc, setc_at]; done) | (simp only [setc_setc, setc_at]; rfl) | (funext d; simp only [setc_app]; (repeat' split) <;> first | rfl | omega))) ?_
              refine jx_iinc E 0 dX5_feed_59 rfl (by decide) [(3, vI ((k : Int) - 1 + (-1))), (0, .ref (a 0)), (1, vI v), (2, vI n)] rfl ?_
              refine jx_goto (tgt := 42) E dX5_feed_62 (by decide) ?_
              rw [ev, hz8]
              obtain ⟨k', rfl⟩ : ∃ k', k = k' + 1 := ⟨k - 1, by omega⟩
              refine jx_lve (congrArg (fun z => [(3, vI z), (0, Value.ref (a 0)), (1, vI v), (2, vI n)]) (show ((k' + 1 : Nat) : Int) - 1 + (-1) = (k' : Int) - 1 by omega)) ?_
              refine jx_eq (ws' := wsX G a (setc (setc x 3 (feedP (x 3) (x 9 1) v n (n - (k' : Int)))) 9 (updI (x 9) 1 (x 9 1 + (n - (k' : Int)))))) (congrArg (wsX G a) (feedX_1 x v n k' (by omega))) ?_
              exact ih k' (by omega) (by omega)
        refine jx_eq (ws' := wsX G a (setc (setc x 3 (feedP (x 3) (x 9 1) v n (n - ((n.toNat : Nat) : Int)))) 9 (updI (x 9) 1 (x 9 1 + (n - ((n.toNat : Nat) : Int)))))) (congrArg (wsX G a) (feedX_0 x v n (by omega))) ?_
        refine jx_lve (congrArg (fun z => [(3, vI z), (0, Value.ref (a 0)), (1, vI v), (2, vI n)]) (show n - 1 = ((n.toNat : Nat) : Int) - 1 by omega)) ?_
        exact LP42 5 n.toNat (by omega) (by omega)
      · skip
        refine jx_aload_n E 0 dX5_feed_31 rfl ?_
        refine jx_ldc E wc_X5_97 dX5_feed_32 ?_
        refine jx_callVi E [vI (-1000000002)] [] (c_X5_found l G a x (f := (-1000000002)) (by omega)) mb_X5_found mv_X5_found wl_X5_54 f_X5 wx_obj dX5_feed_34 ?_
        exact jx_iret E hr dX5_feed_37 (by simp only [feedR]; omega) (by rw [show feedR (x 9 1) n = (-1000000002) from by simp only [feedR]; omega, if_neg (show ¬ ((1 ≤ n ∧ n ≤ 4) ∧ x 9 1 + n ≤ 120) by omega), endX_f (by decide)])
    · skip
      refine jx_aload_n E 0 dX5_feed_10 rfl ?_
      refine jx_ldc E wc_X5_53 dX5_feed_11 ?_
      refine jx_callVi E [vI (-1000000001)] [] (c_X5_found l G a x (f := (-1000000001)) (by omega)) mb_X5_found mv_X5_found wl_X5_54 f_X5 wx_obj dX5_feed_13 ?_
      exact jx_iret E hr dX5_feed_16 (by simp only [feedR]; omega) (by rw [show feedR (x 9 1) n = (-1000000001) from by simp only [feedR]; omega, if_neg (show ¬ ((1 ≤ n ∧ n ≤ 4) ∧ x 9 1 + n ≤ 120) by omega), endX_f (by decide)])
set_option maxHeartbeats 4000000 in
theorem c_X5_write (l : Launch) (G : GT) (a : Nat → Nat) (x : MS) {sh i v : Int} (h1 : ∀ s, 0 ≤ s → s ≤ 3 → VS (x 9 (7 + 2 * s)) (x 9 (8 + 2 * s)) (shX x s)) (h2 : inR sh) (h3 : inR i) (h4 : inL v) : CtL l G yX5_write cX5_write 9 (some .long) 3 [.ref (a 0), vI sh, vI i, vL v] (wsX G a x) (if whyW (x 9 (7 + 2 * sh)) (x 9 (8 + 2 * sh)) sh i ≠ 0 then whyW (x 9 (7 + 2 * sh)) (x 9 (8 + 2 * sh)) sh i else x 5 (40 * sh + i)) (wsX G a (if whyW (x 9 (7 + 2 * sh)) (x 9 (8 + 2 * sh)) sh i ≠ 0 then setc x 4 (tallyP (x 4) (whyW (x 9 (7 + 2 * sh)) (x 9 (8 + 2 * sh)) sh i)) else setc x 5 (updI (x 5) (40 * sh + i) (cutP (x 9 (7 + 2 * sh)) v)))) := by
  have hS := h1
  unfold inR at h2 h3
  have hbs : vSheet sh → vBits (x 9 (7 + 2 * sh)) := fun q => (hS sh q.1 q.2).1
  have hzs : vSheet sh → 0 ≤ x 9 (8 + 2 * sh) ∧ x 9 (8 + 2 * sh) ≤ 40 := fun q => ⟨(hS sh q.1 q.2).2.1, (hS sh q.1 q.2).2.2.1⟩
  have hnt := nth_in (x 9 (7 + 2 * sh)) sh
  have hnv : nthR (x 9 (7 + 2 * sh)) sh = 0 → vSheet sh ∧ x 9 (7 + 2 * sh) ≠ 0 := by unfold nthR; omega
  refine CtL.of (by decide) (Nat.le_of_ble_eq_true rfl) ?_
  intro p e s m args below meth c A E hr
  refine jx_lv (lv' := [(0, .ref (a 0)), (1, vI sh), (2, vI i), (3, vL v)]) [0, 1, 2, 3] rfl ?_
  refine jx_aload_n E 0 dX5_write_0 rfl ?_
  refine jx_iload_n E 1 dX5_write_1 rfl ?_
  refine jx_callVi E [vI sh] [] (c_X5_askSheet l G a x (sh := sh) (by unfold inR; omega) hbs) mb_X5_askSheet mv_X5_askSheet wl_X5_211 f_X5 wx_obj dX5_write_2 ?_
  refine jx_istore E dX5_write_5 (by decide) [(5, vI (nthR ((x 9) (7 + 2 * sh)) sh)), (0, .ref (a 0)), (1, vI sh), (2, vI i), (3, vL v)] rfl ?_
  refine jx_iload E 0 dX5_write_7 rfl ?_
  refine jx_if_eq (tgt := 20) E dX5_write_9 (by decide) (fun c1 => ?_) (fun c1 => ?_)
  · skip
    have hv5 := hnv (by omega)
    have hz5 := hzs hv5.1
    refine jx_aload_n E 1 dX5_write_20 rfl ?_
    refine jx_get E f_X5 6 (v := .ref (a 40)) wx_obj (by decide) wf_X5_45 rfl dX5_write_21 ?_
    refine jx_iload_n E 2 dX5_write_24 rfl ?_
    refine jx_aald E 3 (y := a (41 + 2 * sh.toNat)) wx_shts rfl rfl (by omega) (by omega) (by decide) dX5_write_25 ?_
    refine jx_astore E dX5_write_26 (by decide) [(6, .ref (a (41 + 2 * sh.toNat))), (5, vI (nthR ((x 9) (7 + 2 * sh)) sh)), (0, .ref (a 0)), (1, vI sh), (2, vI i), (3, vL v)] rfl ?_
    refine jx_iload_n E 4 dX5_write_28 rfl ?_
    refine jx_if_lt (tgt := 41) E dX5_write_29 (by decide) (fun c2 => ?_) (fun c2 => ?_)
    · skip
      refine jx_aload_n E 2 dX5_write_41 rfl ?_
      refine jx_ldc E wc_X5_53 dX5_write_42 ?_
      refine jx_callVi E [vI (-1000000001)] [] (c_X5_found l G a x (f := (-1000000001)) (by omega)) mb_X5_found mv_X5_found wl_X5_54 f_X5 wx_obj dX5_write_44 ?_
      refine jx_i2l E dX5_write_47 ?_
      exact jx_lret E hr dX5_write_48 (by have e : whyW (x 9 (7 + 2 * sh)) (x 9 (8 + 2 * sh)) sh i = -1000000001 := (by simp only [whyW]; omega); rw [e, if_pos (by decide)]) (by have e : whyW (x 9 (7 + 2 * sh)) (x 9 (8 + 2 * sh)) sh i = -1000000001 := (by simp only [whyW]; omega); rw [e, if_pos (by decide)])
    · skip
      refine jx_iload_n E 4 dX5_write_32 rfl ?_
      refine jx_aload E 0 dX5_write_33 rfl ?_
      refine jx_get E f_X1 1 (v := vI ((x 9) (8 + 2 * sh))) (wx_sht (by omega) (by omega)) (by decide) wf_X5_210 rfl dX5_write_35 ?_
      refine jx_icmp_lt (tgt := 49) E dX5_write_38 (by decide) (fun c3 => ?_) (fun c3 => ?_)
      · skip
        refine jx_aload E 0 dX5_write_49 rfl ?_
        refine jx_get E f_X1 2 (v := .ref (a (42 + 2 * sh.toNat))) (wx_sht (by omega) (by omega)) (by decide) wf_X5_214 rfl dX5_write_51 ?_
        refine jx_iload_n E 4 dX5_write_54 rfl ?_
        refine jx_lald E (v := (x 5) (40 * sh + i)) (wx_nums (by omega) (by omega)) (rowL_at (by omega) (by omega)) (by omega) (by omega) (by decide) dX5_write_55 ?_
        refine jx_lstore E dX5_write_56 (by decide) [(7, vL ((x 5) (40 * sh + i))), (6, .ref (a (41 + 2 * sh.toNat))), (5, vI (nthR ((x 9) (7 + 2 * sh)) sh)), (0, .ref (a 0)), (1, vI sh), (2, vI i), (3, vL v)] rfl ?_
        refine jx_aload E 1 dX5_write_58 rfl ?_
        refine jx_iload_n E 5 dX5_write_60 rfl ?_
        refine jx_lload_n E 6 dX5_write_61 rfl ?_
        refine jx_callVv E [vI i, vL v] [] (c_X1_put l G a x (i := i) (v := v) (sh := sh) (by omega) (hS sh (by omega) (by omega)) (by omega) h4) mb_X1_put mv_X1_put wl_X5_218 f_X1 (wx_sht (by omega) (by omega)) dX5_write_62 ?_
        refine jx_lload E 0 dX5_write_65 rfl ?_
        exact jx_lret E hr dX5_write_67 (by have e : whyW (x 9 (7 + 2 * sh)) (x 9 (8 + 2 * sh)) sh i = 0 := (by simp only [whyW]; omega); rw [e, if_neg (by decide)]) (by have e : whyW (x 9 (7 + 2 * sh)) (x 9 (8 + 2 * sh)) sh i = 0 := (by simp only [whyW]; omega); rw [e, if_neg (by decide)])
      · skip
        refine jx_aload_n E 2 dX5_write_41 rfl ?_
        refine jx_ldc E wc_X5_53 dX5_write_42 ?_
        refine jx_callVi E [vI (-1000000001)] [] (c_X5_found l G a x (f := (-1000000001)) (by omega)) mb_X5_found mv_X5_found wl_X5_54 f_X5 wx_obj dX5_write_44 ?_
        refine jx_i2l E dX5_write_47 ?_
        exact jx_lret E hr dX5_write_48 (by have e : whyW (x 9 (7 + 2 * sh)) (x 9 (8 + 2 * sh)) sh i = -1000000001 := (by simp only [whyW]; omega); rw [e, if_pos (by decide)]) (by have e : whyW (x 9 (7 + 2 * sh)) (x 9 (8 + 2 * sh)) sh i = -1000000001 := (by simp only [whyW]; omega); rw [e, if_pos (by decide)])
  · skip
    refine jx_aload_n E 1 dX5_write_12 rfl ?_
    refine jx_iload E 0 dX5_write_13 rfl ?_
    refine jx_callVi E [vI (nthR ((x 9) (7 + 2 * sh)) sh)] [] (c_X5_found l G a x (f := nthR ((x 9) (7 + 2 * sh)) sh) (by omega)) mb_X5_found mv_X5_found wl_X5_54 f_X5 wx_obj dX5_write_15 ?_
    refine jx_i2l E dX5_write_18 ?_
    exact jx_lret E hr dX5_write_19 (by have e : whyW (x 9 (7 + 2 * sh)) (x 9 (8 + 2 * sh)) sh i = nthR (x 9 (7 + 2 * sh)) sh := (by simp only [whyW]; omega); rw [e, if_pos (by omega)]) (by have e : whyW (x 9 (7 + 2 * sh)) (x 9 (8 + 2 * sh)) sh i = nthR (x 9 (7 + 2 * sh)) sh := (by simp only [whyW]; omega); rw [e, if_pos (by omega)])
set_option maxHeartbeats 4000000 in
theorem c_X5_lays (l : Launch) (G : GT) (a : Nat → Nat) (x : MS) {sh : Int} (h1 : VT 99999 (x 0)) (h2 : ∀ s, 0 ≤ s → s ≤ 3 → VS (x 9 (7 + 2 * s)) (x 9 (8 + 2 * s)) (shX x s)) (h3 : inR sh) : CtI l G yX5_lays cX5_lays 8 (some .int) 3 [.ref (a 0), vI sh] (wsX G a x) (if nthR (x 9 (7 + 2 * sh)) sh ≠ 0 then nthR (x 9 (7 + 2 * sh)) sh else layC (shX x sh) (laysN (x 9 (8 + 2 * sh)))) (wsX G a (endX (if nthR (x 9 (7 + 2 * sh)) sh = 0 then setc x 0 (layT (shX x sh) (x 0) (laysN (x 9 (8 + 2 * sh)))) else x) (if nthR (x 9 (7 + 2 * sh)) sh ≠ 0 then nthR (x 9 (7 + 2 * sh)) sh else layC (shX x sh) (laysN (x 9 (8 + 2 * sh)))))) := by
  have hS := h2
  unfold inR at h3
  have hbs : vSheet sh → vBits (x 9 (7 + 2 * sh)) := fun q => (hS sh q.1 q.2).1
  have hzs : vSheet sh → 0 ≤ x 9 (8 + 2 * sh) ∧ x 9 (8 + 2 * sh) ≤ 40 := fun q => ⟨(hS sh q.1 q.2).2.1, (hS sh q.1 q.2).2.2.1⟩
  have hnt := nth_in (x 9 (7 + 2 * sh)) sh
  have hnv : nthR (x 9 (7 + 2 * sh)) sh = 0 → vSheet sh ∧ x 9 (7 + 2 * sh) ≠ 0 := by unfold nthR; omega
  refine CtI.of (by decide) (Nat.le_of_ble_eq_true rfl) ?_
  intro p e s m args below meth c A E hr
  refine jx_lv (lv' := [(0, .ref (a 0)), (1, vI sh)]) [0, 1] rfl ?_
  refine jx_aload_n E 0 dX5_lays_0 rfl ?_
  refine jx_iload_n E 1 dX5_lays_1 rfl ?_
  refine jx_callVi E [vI sh] [] (c_X5_askSheet l G a x (sh := sh) (by unfold inR; omega) hbs) mb_X5_askSheet mv_X5_askSheet wl_X5_211 f_X5 wx_obj dX5_lays_2 ?_
  refine jx_istore_n E dX5_lays_5 (by decide) [(2, vI (nthR ((x 9) (7 + 2 * sh)) sh)), (0, .ref (a 0)), (1, vI sh)] rfl ?_
  refine jx_iload_n E 0 dX5_lays_6 rfl ?_
  refine jx_if_eq (tgt := 16) E dX5_lays_7 (by decide) (fun c1 => ?_) (fun c1 => ?_)
  · skip
    have hv5 := hnv (by omega)
    have hz5 := hzs hv5.1
    refine jx_aload_n E 1 dX5_lays_16 rfl ?_
    refine jx_get E f_X5 6 (v := .ref (a 40)) wx_obj (by decide) wf_X5_45 rfl dX5_lays_17 ?_
    refine jx_iload_n E 2 dX5_lays_20 rfl ?_
    refine jx_aald E 3 (y := a (41 + 2 * sh.toNat)) wx_shts rfl rfl (by omega) (by omega) (by decide) dX5_lays_21 ?_
    refine jx_astore_n E dX5_lays_22 (by decide) [(3, .ref (a (41 + 2 * sh.toNat))), (2, vI (nthR ((x 9) (7 + 2 * sh)) sh)), (0, .ref (a 0)), (1, vI sh)] rfl ?_
    refine jx_iconst E dX5_lays_23 ?_
    refine jx_istore E dX5_lays_24 (by decide) [(4, vI 0), (3, .ref (a (41 + 2 * sh.toNat))), (2, vI (nthR ((x 9) (7 + 2 * sh)) sh)), (0, .ref (a 0)), (1, vI sh)] rfl ?_
    refine jx_iconst E dX5_lays_26 ?_
    refine jx_istore E dX5_lays_27 (by decide) [(5, vI 0), (4, vI 0), (3, .ref (a (41 + 2 * sh.toNat))), (2, vI (nthR ((x 9) (7 + 2 * sh)) sh)), (0, .ref (a 0)), (1, vI sh)] rfl ?_
    have LP29 : ∀ (n2 : Nat) (k : Nat), ((k : Int) ≤ min (x 9 (8 + 2 * sh)) 8) → (8 - (k : Int) < n2) → JX p l e (rmL 3) s m args below meth c 8 G A 0 0 (QI below args s G A (if nthR (x 9 (7 + 2 * sh)) sh ≠ 0 then nthR (x 9 (7 + 2 * sh)) sh else layC (shX x sh) (laysN (x 9 (8 + 2 * sh)))) (wsX G a (endX (if nthR (x 9 (7 + 2 * sh)) sh = 0 then setc x 0 (layT (shX x sh) (x 0) (laysN (x 9 (8 + 2 * sh)))) else x) (if nthR (x 9 (7 + 2 * sh)) sh ≠ 0 then nthR (x 9 (7 + 2 * sh)) sh else layC (shX x sh) (laysN (x 9 (8 + 2 * sh))))))) (wsX G a (setc x 0 (layT (shX x sh) (x 0) k))) 29 [(5, vI (k : Int)), (4, vI (layC (shX x sh) k)), (3, .ref (a (41 + 2 * sh.toNat))), (2, vI (nthR ((x 9) (7 + 2 * sh)) sh)), (0, .ref (a 0)), (1, vI sh)] [] := by
      intro n2
      induction n2 with
      | zero => intro k q1 q2; exfalso; omega
      | succ n2 ih =>
        intro k q1 q2
        refine jx_iload E 0 dX5_lays_29 rfl ?_
        refine jx_aload_n E 2 dX5_lays_31 rfl ?_
        refine jx_get E f_X1 1 (v := vI ((x 9) (8 + 2 * sh))) (wx_sht (by omega) (by omega)) (by decide) wf_X5_210 (by first | rfl | (simp only [setc_at, List.getElem?_cons_zero, List.getElem?_cons_succ]; done) | (simp [setc_at]; done)) dX5_lays_32 ?_
        refine jx_icmp_ge (tgt := 92) E dX5_lays_35 (by decide) (fun c2 => ?_) (fun c2 => ?_)
        · skip
          refine jx_iload E 1 dX5_lays_92 rfl ?_
          exact jx_iret E hr dX5_lays_94 (by rw [if_neg (by omega), show k = laysN (x 9 (8 + 2 * sh)) by unfold laysN; omega]) (by have hl := layC_in (shX x sh) (laysN (x 9 (8 + 2 * sh))); rw [if_neg (show ¬ nthR (x 9 (7 + 2 * sh)) sh ≠ 0 by omega), if_pos (show nthR (x 9 (7 + 2 * sh)) sh = 0 by omega), endX_n (by omega), show k = laysN (x 9 (8 + 2 * sh)) by unfold laysN; omega])
        · skip
          refine jx_iload E 0 dX5_lays_38 rfl ?_
          refine jx_bipush E dX5_lays_40 ?_
          refine jx_icmp_ge (tgt := 92) E dX5_lays_42 (by decide) (fun c3 => ?_) (fun c3 => ?_)
          · skip
            refine jx_iload E 1 dX5_lays_92 rfl ?_
            exact jx_iret E hr dX5_lays_94 (by rw [if_neg (by omega), show k = laysN (x 9 (8 + 2 * sh)) by unfold laysN; omega]) (by have hl := layC_in (shX x sh) (laysN (x 9 (8 + 2 * sh))); rw [if_neg (show ¬ nthR (x 9 (7 + 2 * sh)) sh ≠ 0 by omega), if_pos (show nthR (x 9 (7 + 2 * sh)) sh = 0 by omega), endX_n (by omega), show k = laysN (x 9 (8 + 2 * sh)) by unfold laysN; omega])
          · skip
            have hin : inL (x 5 (40 * sh + (k : Int))) := (hS sh (by omega) (by omega)).2.2.2.2 k (by omega) (by omega)
            unfold inL at hin
            refine jx_aload_n E 2 dX5_lays_45 rfl ?_
            refine jx_get E f_X1 2 (v := .ref (a (42 + 2 * sh.toNat))) (wx_sht (by omega) (by omega)) (by decide) wf_X5_214 rfl dX5_lays_46 ?_
            refine jx_iload E 0 dX5_lays_49 rfl ?_
            refine jx_lald E (v := (x 5) (40 * sh + (k : Int))) (wx_nums (by omega) (by omega)) (rowL_at (by omega) (by omega)) (by omega) (by omega) (by decide) dX5_lays_51 ?_
            refine jx_lstore E dX5_lays_52 (by decide) [(6, vL ((x 5) (40 * sh + (k : Int)))), (5, vI (k : Int)), (4, vI (layC (shX x sh) k)), (3, .ref (a (41 + 2 * sh.toNat))), (2, vI (nthR ((x 9) (7 + 2 * sh)) sh)), (0, .ref (a 0)), (1, vI sh)] rfl ?_
            refine jx_lload E 0 dX5_lays_54 rfl ?_
            refine jx_lconst0 E dX5_lays_56 ?_
            refine jx_lcmp_lt (tgt := 86) E dX5_lays_57 dX5_lays_58 (by decide) (fun c4 => ?_) (fun c4 => ?_)
            · skip
              refine jx_iinc E 1 dX5_lays_86 rfl (by decide) [(5, vI ((k : Int) + 1)), (6, vL ((x 5) (40 * sh + (k : Int)))), (4, vI (layC (shX x sh) k)), (3, .ref (a (41 + 2 * sh.toNat))), (2, vI (nthR ((x 9) (7 + 2 * sh)) sh)), (0, .ref (a 0)), (1, vI sh)] rfl ?_
              refine jx_goto (tgt := 29) E dX5_lays_89 (by decide) ?_
              refine jx_lv (lv' := [(5, vI ((k : Int) + 1)), (4, vI (layC (shX x sh) k)), (3, .ref (a (41 + 2 * sh.toNat))), (2, vI (nthR ((x 9) (7 + 2 * sh)) sh)), (0, .ref (a 0)), (1, vI sh)]) [0, 2, 3, 4, 5, 6] rfl ?_
              refine jx_eq (ws' := wsX G a (setc x 0 (layT (shX x sh) (x 0) (k + 1)))) (by first | (rw [layT, if_pos (show 0 ≤ shX x sh k ∧ shX x sh k ≤ 99 by unfold shX; omega)]; rfl) | (rw [layT, if_neg (show ¬ (0 ≤ shX x sh k ∧ shX x sh k ≤ 99) by unfold shX; omega)])) ?_
              refine jx_lve (lv' := [(5, vI ((k : Int) + 1)), (4, vI (layC (shX x sh) (k + 1))), (3, .ref (a (41 + 2 * sh.toNat))), (2, vI (nthR (x 9 (7 + 2 * sh)) sh)), (0, .ref (a 0)), (1, vI sh)]) (by first | (rw [layC, if_pos (show 0 ≤ shX x sh k ∧ shX x sh k ≤ 99 by unfold shX; omega)]; done) | (rw [layC, if_neg (show ¬ (0 ≤ shX x sh k ∧ shX x sh k ≤ 99) by unfold shX; omega)]; done)) ?_
              exact ih (k + 1) (by omega) (by omega)
            · skip
              refine jx_lload E 0 dX5_lays_61 rfl ?_
              refine jx_ldc2 E wc_X5_238 dX5_lays_63 ?_
              refine jx_lcmp_gt (tgt := 86) E dX5_lays_66 dX5_lays_67 (by decide) (fun c5 => ?_) (fun c5 => ?_)
              · skip
                refine jx_iinc E 1 dX5_lays_86 rfl (by decide) [(5, vI ((k : Int) + 1)), (6, vL ((x 5) (40 * sh + (k : Int)))), (4, vI (layC (shX x sh) k)), (3, .ref (a (41 + 2 * sh.toNat))), (2, vI (nthR ((x 9) (7 + 2 * sh)) sh)), (0, .ref (a 0)), (1, vI sh)] rfl ?_
                refine jx_goto (tgt := 29) E dX5_lays_89 (by decide) ?_
                refine jx_lv (lv' := [(5, vI ((k : Int) + 1)), (4, vI (layC (shX x sh) k)), (3, .ref (a (41 + 2 * sh.toNat))), (2, vI (nthR ((x 9) (7 + 2 * sh)) sh)), (0, .ref (a 0)), (1, vI sh)]) [0, 2, 3, 4, 5, 6] rfl ?_
                refine jx_eq (ws' := wsX G a (setc x 0 (layT (shX x sh) (x 0) (k + 1)))) (by first | (rw [layT, if_pos (show 0 ≤ shX x sh k ∧ shX x sh k ≤ 99 by unfold shX; omega)]; rfl) | (rw [layT, if_neg (show ¬ (0 ≤ shX x sh k ∧ shX x sh k ≤ 99) by unfold shX; omega)])) ?_
                refine jx_lve (lv' := [(5, vI ((k : Int) + 1)), (4, vI (layC (shX x sh) (k + 1))), (3, .ref (a (41 + 2 * sh.toNat))), (2, vI (nthR (x 9 (7 + 2 * sh)) sh)), (0, .ref (a 0)), (1, vI sh)]) (by first | (rw [layC, if_pos (show 0 ≤ shX x sh k ∧ shX x sh k ≤ 99 by unfold shX; omega)]; done) | (rw [layC, if_neg (show ¬ (0 ≤ shX x sh k ∧ shX x sh k ≤ 99) by unfold shX; omega)]; done)) ?_
                exact ih (k + 1) (by omega) (by omega)
              · skip
                refine jx_aload_n E 5 dX5_lays_70 rfl ?_
                refine jx_get E f_X5 0 (v := .ref (a 1)) wx_obj (by decide) wf_X5_10 rfl dX5_lays_71 ?_
                refine jx_get E f_X4 4 (v := .ref (a 2)) (wx_town (j := 0) (by decide)) (by decide) wf_X5_68 rfl dX5_lays_74 ?_
                refine jx_iload E 1 dX5_lays_77 rfl ?_
                refine jx_lload E 0 dX5_lays_79 rfl ?_
                refine jx_l2i E dX5_lays_81 ?_
                refine jx_iast E (wx_rain (j := 0) (by decide)) (wp_rain (j := 0) (by decide) (by omega) (by omega)) (by omega) (by omega) (by decide) dX5_lays_82 ?_
                refine jx_eq (ws' := wsX G a (setc x 0 (updI (layT (shX x sh) (x 0) k) (5 + (k : Int)) ((x 5) (40 * sh + (k : Int)))))) (congrArg (wsX G a) (by first | rfl | (rw [setc_setc]; rfl) | exact setc_in _ _ _ _ (by decide) | exact setc_in2 _ _ _ _ _ (by decide) (by decide) | (rw [setc_in _ _ _ _ (by decide), setc_in _ _ _ _ (by decide)]; rfl) | (rw [setc_in _ _ _ _ (by decide), setc_setc]; rfl) | (simp only [setc_setc, setc_at]; done) | (simp only [setc_setc, setc_at]; rfl) | (funext d; simp only [setc_app]; (repeat' split) <;> first | rfl | omega))) ?_
                refine jx_iinc E 2 dX5_lays_83 rfl (by decide) [(4, vI (layC (shX x sh) k + 1)), (6, vL ((x 5) (40 * sh + (k : Int)))), (5, vI (k : Int)), (3, .ref (a (41 + 2 * sh.toNat))), (2, vI (nthR ((x 9) (7 + 2 * sh)) sh)), (0, .ref (a 0)), (1, vI sh)] rfl ?_
                refine jx_iinc E 2 dX5_lays_86 rfl (by decide) [(5, vI ((k : Int) + 1)), (4, vI (layC (shX x sh) k + 1)), (6, vL ((x 5) (40 * sh + (k : Int)))), (3, .ref (a (41 + 2 * sh.toNat))), (2, vI (nthR ((x 9) (7 + 2 * sh)) sh)), (0, .ref (a 0)), (1, vI sh)] rfl ?_
                refine jx_goto (tgt := 29) E dX5_lays_89 (by decide) ?_
                refine jx_lv (lv' := [(5, vI ((k : Int) + 1)), (4, vI (layC (shX x sh) k + 1)), (3, .ref (a (41 + 2 * sh.toNat))), (2, vI (nthR ((x 9) (7 + 2 * sh)) sh)), (0, .ref (a 0)), (1, vI sh)]) [0, 1, 3, 4, 5, 6] rfl ?_
                refine jx_eq (ws' := wsX G a (setc x 0 (layT (shX x sh) (x 0) (k + 1)))) (by first | (rw [layT, if_pos (show 0 ≤ shX x sh k ∧ shX x sh k ≤ 99 by unfold shX; omega)]; rfl) | (rw [layT, if_neg (show ¬ (0 ≤ shX x sh k ∧ shX x sh k ≤ 99) by unfold shX; omega)])) ?_
                refine jx_lve (lv' := [(5, vI ((k : Int) + 1)), (4, vI (layC (shX x sh) (k + 1))), (3, .ref (a (41 + 2 * sh.toNat))), (2, vI (nthR (x 9 (7 + 2 * sh)) sh)), (0, .ref (a 0)), (1, vI sh)]) (by first | (rw [layC, if_pos (show 0 ≤ shX x sh k ∧ shX x sh k ≤ 99 by unfold shX; omega)]; done) | (rw [layC, if_neg (show ¬ (0 ≤ shX x sh k ∧ shX x sh k ≤ 99) by unfold shX; omega)]; done)) ?_
                exact ih (k + 1) (by omega) (by omega)
    refine jx_eq (ws' := wsX G a (setc x 0 (x 0))) (congrArg (wsX G a) (setc_self x 0).symm) ?_
    exact LP29 9 0 (by omega) (by omega)
  · skip
    refine jx_aload_n E 1 dX5_lays_10 rfl ?_
    refine jx_iload_n E 0 dX5_lays_11 rfl ?_
    refine jx_callVi E [vI (nthR ((x 9) (7 + 2 * sh)) sh)] [] (c_X5_found l G a x (f := nthR ((x 9) (7 + 2 * sh)) sh) (by omega)) mb_X5_found mv_X5_found wl_X5_54 f_X5 wx_obj dX5_lays_12 ?_
    exact jx_iret E hr dX5_lays_15 (by rw [if_pos (by omega)]) (by rw [if_pos (show nthR (x 9 (7 + 2 * sh)) sh ≠ 0 by omega), if_neg (show ¬ nthR (x 9 (7 + 2 * sh)) sh = 0 by omega), endX_f (by omega)])
