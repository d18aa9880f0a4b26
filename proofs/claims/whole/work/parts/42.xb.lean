/-! 42.xb: laid by the walker out of specXB -/
set_option maxHeartbeats 4000000 in
theorem c_X5_book (l : Launch) (G : GT) (a : Nat → Nat) (x : MS) {sh : Int} (h1 : VT 99999 (x 0)) (h2 : ∀ s, 0 ≤ s → s ≤ 3 → VS (x 9 (7 + 2 * s)) (x 9 (8 + 2 * s)) (shX x s)) (h3 : inR sh) : CtE l G yX5_book cX5_book 5 (some .int) 5 [.ref (a 0), vI sh] (wsX G a x) (if nthR (x 9 (7 + 2 * sh)) sh ≠ 0 then nthR (x 9 (7 + 2 * sh)) sh else x 9 (8 + 2 * sh)) (fun u9 => wsX G a (setc (endX (if nthR (x 9 (7 + 2 * sh)) sh = 0 then setc x 5 (bookP (x 5) (40 * sh) (x 9 (7 + 2 * sh)) (x 0) (x 9 (8 + 2 * sh))) else x) (if nthR (x 9 (7 + 2 * sh)) sh ≠ 0 then nthR (x 9 (7 + 2 * sh)) sh else x 9 (8 + 2 * sh))) 1 u9)) := by
  obtain ⟨v0, v1, v2, v3, v4, v5, v6, v7⟩ := id h1
  have hS := h2
  unfold inR at h3
  have hbs : vSheet sh → vBits (x 9 (7 + 2 * sh)) := fun q => (hS sh q.1 q.2).1
  have hzs : vSheet sh → 0 ≤ x 9 (8 + 2 * sh) ∧ x 9 (8 + 2 * sh) ≤ 40 := fun q => ⟨(hS sh q.1 q.2).2.1, (hS sh q.1 q.2).2.2.1⟩
  have hnt := nth_in (x 9 (7 + 2 * sh)) sh
  have hnv : nthR (x 9 (7 + 2 * sh)) sh = 0 → vSheet sh ∧ x 9 (7 + 2 * sh) ≠ 0 := by unfold nthR; omega
  refine CtE.of (by decide) (Nat.le_of_ble_eq_true rfl) ?_
  intro p e s m args below meth c A E hr
  refine jx_lv (lv' := [(0, .ref (a 0)), (1, vI sh)]) [0, 1] rfl ?_
  refine jx_aload_n E 0 dX5_book_0 rfl ?_
  refine jx_iload_n E 1 dX5_book_1 rfl ?_
  refine jx_callVi E [vI sh] [] (c_X5_askSheet l G a x (sh := sh) (by unfold inR; omega) hbs) mb_X5_askSheet mv_X5_askSheet wl_X5_211 f_X5 wx_obj dX5_book_2 ?_
  refine jx_istore_n E dX5_book_5 (by decide) [(2, vI (nthR ((x 9) (7 + 2 * sh)) sh)), (0, .ref (a 0)), (1, vI sh)] rfl ?_
  refine jx_iload_n E 0 dX5_book_6 rfl ?_
  refine jx_if_eq (tgt := 16) E dX5_book_7 (by decide) (fun c1 => ?_) (fun c1 => ?_)
  · skip
    have hv5 := hnv (by omega)
    have hz5 := hzs hv5.1
    refine jx_aload_n E 1 dX5_book_16 rfl ?_
    refine jx_get E f_X5 6 (v := .ref (a 40)) wx_obj (by decide) wf_X5_45 rfl dX5_book_17 ?_
    refine jx_iload_n E 2 dX5_book_20 rfl ?_
    refine jx_aald E 3 (y := a (41 + 2 * sh.toNat)) wx_shts rfl rfl (by omega) (by omega) (by decide) dX5_book_21 ?_
    refine jx_astore_n E dX5_book_22 (by decide) [(3, .ref (a (41 + 2 * sh.toNat))), (2, vI (nthR ((x 9) (7 + 2 * sh)) sh)), (0, .ref (a 0)), (1, vI sh)] rfl ?_
    refine jx_aload_n E 2 dX5_book_23 rfl ?_
    refine jx_get E f_X5 1 (v := .ref (a 13)) wx_obj (by decide) wf_X5_16 rfl dX5_book_24 ?_
    refine jx_aload_n E 2 dX5_book_27 rfl ?_
    refine jx_get E f_X5 0 (v := .ref (a 1)) wx_obj (by decide) wf_X5_10 rfl dX5_book_28 ?_
    refine jx_callVv E [.ref (a 1)] [] (c_X4_become_10 l G a x  v4) mb_X4_become mv_X4_become wl_X5_166 f_X4 (wx_town (j := 1) (by decide)) dX5_book_31 ?_
    have hE : EQ (hdP (x 1) (x 0) (21 + 5 * (x 0) 4)) (x 0) := EQ.hd v4
    have hVt := hE.snd h1
    refine jx_iconst E dX5_book_34 ?_
    refine jx_istore E dX5_book_35 (by decide) [(4, vI 0), (3, .ref (a (41 + 2 * sh.toNat))), (2, vI (nthR ((x 9) (7 + 2 * sh)) sh)), (0, .ref (a 0)), (1, vI sh)] rfl ?_
    have LP37 : ∀ (n2 : Nat) (k : Nat), ((k : Int) ≤ x 9 (8 + 2 * sh)) → (x 9 (8 + 2 * sh) - (k : Int) < n2) → JX p l e (rmL 5) s m args below meth c 5 G A 0 0 (QE below args s G A (if nthR (x 9 (7 + 2 * sh)) sh ≠ 0 then nthR (x 9 (7 + 2 * sh)) sh else x 9 (8 + 2 * sh)) (fun u9 => wsX G a (setc (endX (if nthR (x 9 (7 + 2 * sh)) sh = 0 then setc x 5 (bookP (x 5) (40 * sh) (x 9 (7 + 2 * sh)) (x 0) (x 9 (8 + 2 * sh))) else x) (if nthR (x 9 (7 + 2 * sh)) sh ≠ 0 then nthR (x 9 (7 + 2 * sh)) sh else x 9 (8 + 2 * sh))) 1 u9))) (wsX G a (setc (setc x 1 (daysP k (hdP (x 1) (x 0) (21 + 5 * (x 0) 4)))) 5 (bookP (x 5) (40 * sh) (x 9 (7 + 2 * sh)) (x 0) (k : Int)))) 37 [(4, vI (k : Int)), (3, .ref (a (41 + 2 * sh.toNat))), (2, vI (nthR ((x 9) (7 + 2 * sh)) sh)), (0, .ref (a 0)), (1, vI sh)] [] := by
      intro n2
      induction n2 with
      | zero => intro k q1 q2; exfalso; omega
      | succ n2 ih =>
        intro k q1 q2
        refine jx_iload E 0 dX5_book_37 rfl ?_
        refine jx_aload_n E 1 dX5_book_39 rfl ?_
        refine jx_get E f_X1 1 (v := vI ((x 9) (8 + 2 * sh))) (wx_sht (by omega) (by omega)) (by decide) wf_X5_210 (by first | rfl | (simp only [setc_at, List.getElem?_cons_zero, List.getElem?_cons_succ]; done) | (simp [setc_at]; done)) dX5_book_40 ?_
        refine jx_icmp_ge (tgt := 73) E dX5_book_43 (by decide) (fun c2 => ?_) (fun c2 => ?_)
        · skip
          refine jx_aload_n E 1 dX5_book_73 rfl ?_
          refine jx_get E f_X1 1 (v := vI ((x 9) (8 + 2 * sh))) (wx_sht (by omega) (by omega)) (by decide) wf_X5_210 (by first | rfl | (simp only [setc_at, List.getElem?_cons_zero, List.getElem?_cons_succ]; done) | (simp [setc_at]; done)) dX5_book_74 ?_
          exact jx_iretE E hr dX5_book_77 (by rw [if_neg (by omega)]) (daysP k (hdP (x 1) (x 0) (21 + 5 * (x 0) 4))) (by rw [if_neg (show ¬ nthR (x 9 (7 + 2 * sh)) sh ≠ 0 by omega), if_pos (show nthR (x 9 (7 + 2 * sh)) sh = 0 by omega), endX_n (by omega), show (k : Int) = x 9 (8 + 2 * sh) by omega]; exact congrArg (wsX G a) (setc_comm _ _ _ (by decide)))
        · skip
          have hT1 := (VT_days hVt k).2.1
          have g1 := (hE.days h1 k).lo (k := 1) (by decide) (by decide)
          refine jx_aload_n E 1 dX5_book_46 rfl ?_
          refine jx_iload E 0 dX5_book_47 rfl ?_
          refine jx_aload_n E 3 dX5_book_49 rfl ?_
          refine jx_get E f_X5 1 (v := .ref (a 13)) wx_obj (by decide) wf_X5_16 rfl dX5_book_50 ?_
          refine jx_get E f_X4 1 (v := vI ((daysP k (hdP (x 1) (x 0) (21 + 5 * (x 0) 4))) 1)) (wx_town (j := 1) (by decide)) (by decide) wf_X5_58 (by first | rfl | (simp only [setc_at, List.getElem?_cons_zero, List.getElem?_cons_succ]; done) | (simp [setc_at]; done)) dX5_book_53 ?_
          refine jx_i2l E dX5_book_56 ?_
          refine jx_callVv E [vI (k : Int), vL ((daysP k (hdP (x 1) (x 0) (21 + 5 * (x 0) 4))) 1)] [] (c_X1_put l G a (setc (setc x 1 (daysP k (hdP (x 1) (x 0) (21 + 5 * (x 0) 4)))) 5 (bookP (x 5) (40 * sh) (x 9 (7 + 2 * sh)) (x 0) (k : Int))) (i := (k : Int)) (v := (daysP k (hdP (x 1) (x 0) (21 + 5 * (x 0) 4))) 1) (sh := sh) (by omega) (VS_book (a := 40 * sh) (u := x 5) (hS sh (by omega) (by omega)) h1 (k : Int)) (show 0 ≤ (k : Int) ∧ (k : Int) < x 9 (8 + 2 * sh) by omega) (by unfold inL; omega)) mb_X1_put mv_X1_put wl_X5_218 f_X1 (wx_sht (by omega) (by omega)) dX5_book_57 ?_
          refine jx_eq (ws' := wsX G a (setc (setc x 1 (daysP k (hdP (x 1) (x 0) (21 + 5 * (x 0) 4)))) 5 (updI (bookP (x 5) (40 * sh) (x 9 (7 + 2 * sh)) (x 0) (k : Int)) (40 * sh + (k : Int)) (cutP ((x 9) (7 + 2 * sh)) ((daysP k (hdP (x 1) (x 0) (21 + 5 * (x 0) 4))) 1))))) (congrArg (wsX G a) (by first | rfl | (rw [setc_setc]; rfl) | exact setc_in _ _ _ _ (by decide) | exact setc_in2 _ _ _ _ _ (by decide) (by decide) | (rw [setc_in _ _ _ _ (by decide), setc_in _ _ _ _ (by decide)]; rfl) | (rw [setc_in _ _ _ _ (by decide), setc_setc]; rfl) | (simp only [setc_setc, setc_at]; done) | (simp only [setc_setc, setc_at]; rfl) | (funext d; simp only [setc_app]; (repeat' split) <;> first | rfl | omega))) ?_
          refine jx_aload_n E 3 dX5_book_60 rfl ?_
          refine jx_get E f_X5 1 (v := .ref (a 13)) wx_obj (by decide) wf_X5_16 rfl dX5_book_61 ?_
          refine jx_callVv E [] [] (c_X4_passDay_1 l G a (setc (setc x 1 (daysP k (hdP (x 1) (x 0) (21 + 5 * (x 0) 4)))) 5 (updI (bookP (x 5) (40 * sh) (x 9 (7 + 2 * sh)) (x 0) (k : Int)) (40 * sh + (k : Int)) (cutP ((x 9) (7 + 2 * sh)) ((daysP k (hdP (x 1) (x 0) (21 + 5 * (x 0) 4))) 1))))  (VT_up (VT_days hVt k) (by omega))) mb_X4_passDay mv_X4_passDay wl_X5_170 f_X4 (wx_town (j := 1) (by decide)) dX5_book_64 ?_
          refine jx_eq (ws' := wsX G a (setc (setc x 1 (dayP (daysP k (hdP (x 1) (x 0) (21 + 5 * (x 0) 4))))) 5 (updI (bookP (x 5) (40 * sh) (x 9 (7 + 2 * sh)) (x 0) (k : Int)) (40 * sh + (k : Int)) (cutP ((x 9) (7 + 2 * sh)) ((daysP k (hdP (x 1) (x 0) (21 + 5 * (x 0) 4))) 1))))) (congrArg (wsX G a) (by first | rfl | (rw [setc_setc]; rfl) | exact setc_in _ _ _ _ (by decide) | exact setc_in2 _ _ _ _ _ (by decide) (by decide) | (rw [setc_in _ _ _ _ (by decide), setc_in _ _ _ _ (by decide)]; rfl) | (rw [setc_in _ _ _ _ (by decide), setc_setc]; rfl) | (simp only [setc_setc, setc_at]; done) | (simp only [setc_setc, setc_at]; rfl) | (funext d; simp only [setc_app]; (repeat' split) <;> first | rfl | omega))) ?_
          refine jx_iinc E 0 dX5_book_67 rfl (by decide) [(4, vI ((k : Int) + 1)), (3, .ref (a (41 + 2 * sh.toNat))), (2, vI (nthR ((x 9) (7 + 2 * sh)) sh)), (0, .ref (a 0)), (1, vI sh)] rfl ?_
          refine jx_goto (tgt := 37) E dX5_book_70 (by decide) ?_
          rw [g1, book_1]
          exact ih (k + 1) (by omega) (by omega)
    refine jx_eq (ws' := wsX G a (setc (setc x 1 (daysP 0 (hdP (x 1) (x 0) (21 + 5 * (x 0) 4)))) 5 (bookP (x 5) (40 * sh) (x 9 (7 + 2 * sh)) (x 0) ((0 : Nat) : Int)))) (by rw [show ((0 : Nat) : Int) = 0 from rfl, book_0]; exact congrArg (wsX G a) (setc_self (setc x 1 (hdP (x 1) (x 0) (21 + 5 * (x 0) 4))) 5).symm) ?_
    exact LP37 41 0 (by omega) (by omega)
  · skip
    refine jx_aload_n E 1 dX5_book_10 rfl ?_
    refine jx_iload_n E 0 dX5_book_11 rfl ?_
    refine jx_callVi E [vI (nthR ((x 9) (7 + 2 * sh)) sh)] [] (c_X5_found l G a x (f := nthR ((x 9) (7 + 2 * sh)) sh) (by omega)) mb_X5_found mv_X5_found wl_X5_54 f_X5 wx_obj dX5_book_12 ?_
    exact jx_iretE E hr dX5_book_15 (by rw [if_pos (by omega)]) (x 1) (by rw [if_pos (show nthR (x 9 (7 + 2 * sh)) sh ≠ 0 by omega), if_neg (show ¬ nthR (x 9 (7 + 2 * sh)) sh = 0 by omega), endX_f (by omega)]; exact congrArg (wsX G a) (setc_self _ 1).symm)
set_option maxHeartbeats 4000000 in
theorem c_X5_read (l : Launch) (G : GT) (a : Nat → Nat) (x : MS) {sh f : Int} (h1 : VT 99999 (x 0)) (h2 : ∀ s, 0 ≤ s → s ≤ 3 → VS (x 9 (7 + 2 * s)) (x 9 (8 + 2 * s)) (shX x s)) (h3 : inR sh) (h4 : inR f) : CtE l G yX5_read cX5_read 7 (some .int) 6 [.ref (a 0), vI sh, vI f] (wsX G a x) (readR (x 9 (7 + 2 * sh)) (x 9 (8 + 2 * sh)) (shX x sh) (x 0) sh f) (fun u9 => wsX G a (setc (endX x (readR (x 9 (7 + 2 * sh)) (x 9 (8 + 2 * sh)) (shX x sh) (x 0) sh f)) 1 u9)) := by
  obtain ⟨v0, v1, v2, v3, v4, v5, v6, v7⟩ := id h1
  have hS := h2
  unfold inR at h3 h4
  have hbs : vSheet sh → vBits (x 9 (7 + 2 * sh)) := fun q => (hS sh q.1 q.2).1
  have hzs : vSheet sh → 0 ≤ x 9 (8 + 2 * sh) ∧ x 9 (8 + 2 * sh) ≤ 40 := fun q => ⟨(hS sh q.1 q.2).2.1, (hS sh q.1 q.2).2.2.1⟩
  have hnt := nth_in (x 9 (7 + 2 * sh)) sh
  have hnv : nthR (x 9 (7 + 2 * sh)) sh = 0 → vSheet sh ∧ x 9 (7 + 2 * sh) ≠ 0 := by unfold nthR; omega
  refine CtE.of (by decide) (Nat.le_of_ble_eq_true rfl) ?_
  intro p e s m args below meth c A E hr
  refine jx_lv (lv' := [(0, .ref (a 0)), (1, vI sh), (2, vI f)]) [0, 1, 2] rfl ?_
  refine jx_aload_n E 0 dX5_read_0 rfl ?_
  refine jx_iload_n E 1 dX5_read_1 rfl ?_
  refine jx_callVi E [vI sh] [] (c_X5_askSheet l G a x (sh := sh) (by unfold inR; omega) hbs) mb_X5_askSheet mv_X5_askSheet wl_X5_211 f_X5 wx_obj dX5_read_2 ?_
  refine jx_istore_n E dX5_read_5 (by decide) [(3, vI (nthR ((x 9) (7 + 2 * sh)) sh)), (0, .ref (a 0)), (1, vI sh), (2, vI f)] rfl ?_
  refine jx_iload_n E 0 dX5_read_6 rfl ?_
  refine jx_if_eq (tgt := 16) E dX5_read_7 (by decide) (fun c1 => ?_) (fun c1 => ?_)
  · skip
    have hv5 := hnv (by omega)
    have hz5 := hzs hv5.1
    refine jx_aload_n E 1 dX5_read_16 rfl ?_
    refine jx_get E f_X5 0 (v := .ref (a 1)) wx_obj (by decide) wf_X5_10 rfl dX5_read_17 ?_
    refine jx_iload_n E 3 dX5_read_20 rfl ?_
    refine jx_callVi E [vI f] [] (c_X4_has_0 l G a x (f := f) (by unfold inR; omega) v4) mb_X4_has mv_X4_has wl_X5_101 f_X4 (wx_town (j := 0) (by decide)) dX5_read_21 ?_
    refine jx_if_ne (tgt := 34) E dX5_read_24 (by decide) (fun c2 => ?_) (fun c2 => ?_)
    · skip
      refine jx_iconst E dX5_read_34 ?_
      refine jx_istore E dX5_read_35 (by decide) [(4, vI 0), (3, vI (nthR ((x 9) (7 + 2 * sh)) sh)), (0, .ref (a 0)), (1, vI sh), (2, vI f)] rfl ?_
      refine jx_iconst E dX5_read_37 ?_
      refine jx_istore E dX5_read_38 (by decide) [(5, vI 0), (4, vI 0), (3, vI (nthR ((x 9) (7 + 2 * sh)) sh)), (0, .ref (a 0)), (1, vI sh), (2, vI f)] rfl ?_
      have LP40 : ∀ (n2 : Nat) (kd : Nat) (mn : Int) (U : Int → Int), (kd ≤ 6) → (6 - kd < n2) → (mn = manyP (shX x sh) (x 0) f (x 9 (8 + 2 * sh)) (40 * kd)) → JX p l e (rmL 6) s m args below meth c 7 G A 0 0 (QE below args s G A (readR (x 9 (7 + 2 * sh)) (x 9 (8 + 2 * sh)) (shX x sh) (x 0) sh f) (fun u9 => wsX G a (setc (endX x (readR (x 9 (7 + 2 * sh)) (x 9 (8 + 2 * sh)) (shX x sh) (x 0) sh f)) 1 u9))) (wsX G a (setc x 1 U)) 40 [(5, vI (kd : Int)), (4, vI mn), (3, vI (nthR ((x 9) (7 + 2 * sh)) sh)), (0, .ref (a 0)), (1, vI sh), (2, vI f)] [] := by
        intro n2
        induction n2 with
        | zero => intro kd mn U q1 q2 hmn; exfalso; omega
        | succ n2 ih =>
          intro kd mn U q1 q2 hmn
          have ihO := ih
          refine jx_iload E 0 dX5_read_40 rfl ?_
          refine jx_bipush E dX5_read_42 ?_
          refine jx_icmp_ge (tgt := 127) E dX5_read_44 (by decide) (fun c3 => ?_) (fun c3 => ?_)
          · skip
            refine jx_iload E 1 dX5_read_127 rfl ?_
            exact jx_iretE E hr dX5_read_129 (by simp only [readR]; rw [if_neg (by omega), if_pos (by omega), hmn, show 40 * kd = 240 by omega]) (U) (by have hmm := many_in (shX x sh) (x 0) f (x 9 (8 + 2 * sh)) 240; rw [show readR (x 9 (7 + 2 * sh)) (x 9 (8 + 2 * sh)) (shX x sh) (x 0) sh f = manyP (shX x sh) (x 0) f (x 9 (8 + 2 * sh)) (240) from by (simp only [readR]; rw [if_neg (by omega), if_pos (by omega)]), endX_n (by omega)])
          · skip
            refine jx_iconst E dX5_read_47 ?_
            refine jx_istore E dX5_read_48 (by decide) [(6, vI 1), (5, vI (kd : Int)), (4, vI mn), (3, vI (nthR ((x 9) (7 + 2 * sh)) sh)), (0, .ref (a 0)), (1, vI sh), (2, vI f)] rfl ?_
            have LP50 : ∀ (n2 : Nat) (h : Nat) (mq : Int) (U : Int → Int), (h ≤ 40) → (40 - h < n2) → (mq = manyP (shX x sh) (x 0) f (x 9 (8 + 2 * sh)) (40 * kd + h)) → JX p l e (rmL 6) s m args below meth c 7 G A 0 0 (QE below args s G A (readR (x 9 (7 + 2 * sh)) (x 9 (8 + 2 * sh)) (shX x sh) (x 0) sh f) (fun u9 => wsX G a (setc (endX x (readR (x 9 (7 + 2 * sh)) (x 9 (8 + 2 * sh)) (shX x sh) (x 0) sh f)) 1 u9))) (wsX G a (setc x 1 U)) 50 [(6, vI ((h : Int) + 1)), (5, vI (kd : Int)), (4, vI mq), (3, vI (nthR ((x 9) (7 + 2 * sh)) sh)), (0, .ref (a 0)), (1, vI sh), (2, vI f)] [] := by
              intro n2
              induction n2 with
              | zero => intro h mq U q3 q4 hmq; exfalso; omega
              | succ n2 ih =>
                intro h mq U q3 q4 hmq
                refine jx_iload E 0 dX5_read_50 rfl ?_
                refine jx_bipush E dX5_read_52 ?_
                refine jx_icmp_gt (tgt := 121) E dX5_read_54 (by decide) (fun c4 => ?_) (fun c4 => ?_)
                · skip
                  refine jx_iinc E 1 dX5_read_121 rfl (by decide) [(5, vI ((kd : Int) + 1)), (6, vI ((h : Int) + 1)), (4, vI mq), (3, vI (nthR ((x 9) (7 + 2 * sh)) sh)), (0, .ref (a 0)), (1, vI sh), (2, vI f)] rfl ?_
                  refine jx_goto (tgt := 40) E dX5_read_124 (by decide) ?_
                  refine jx_lv (lv' := [(5, vI ((kd : Int) + 1)), (4, vI mq), (3, vI (nthR ((x 9) (7 + 2 * sh)) sh)), (0, .ref (a 0)), (1, vI sh), (2, vI f)]) [0, 2, 3, 4, 5, 6] rfl ?_
                  exact ihO (kd + 1) _ _ (by omega) (by omega) (by rw [hmq, show h = 40 by omega]; rfl)
                · skip
                  have has : asP (x 0) f ((40 * kd + h : Nat) : Int) = updI (updI (x 0) (21 + 5 * f) (kd : Int)) (21 + 5 * f + 1) ((h : Int) + 1) := by
                    unfold asP
                    rw [show ((40 * kd + h : Nat) : Int) / 40 = (kd : Int) by omega, show 1 + ((40 * kd + h : Nat) : Int) % 40 = (h : Int) + 1 by omega]
                  have hz := VT_as h1 (f := f) (k := ((40 * kd + h : Nat) : Int)) (by omega) (by omega)
                  refine jx_aload_n E 4 dX5_read_57 rfl ?_
                  refine jx_get E f_X5 1 (v := .ref (a 13)) wx_obj (by decide) wf_X5_16 rfl dX5_read_58 ?_
                  refine jx_aload_n E 4 dX5_read_61 rfl ?_
                  refine jx_get E f_X5 0 (v := .ref (a 1)) wx_obj (by decide) wf_X5_10 rfl dX5_read_62 ?_
                  refine jx_callVv E [.ref (a 1)] [] (c_X4_become_10 l G a (setc x 1 U)  v4) mb_X4_become mv_X4_become wl_X5_166 f_X4 (wx_town (j := 1) (by decide)) dX5_read_65 ?_
                  refine jx_eq (ws' := wsX G a (setc x 1 (hdP U (x 0) (21 + 5 * (x 0) 4)))) (congrArg (wsX G a) (by first | rfl | (rw [setc_setc]; rfl) | exact setc_in _ _ _ _ (by decide) | exact setc_in2 _ _ _ _ _ (by decide) (by decide) | (rw [setc_in _ _ _ _ (by decide), setc_in _ _ _ _ (by decide)]; rfl) | (rw [setc_in _ _ _ _ (by decide), setc_setc]; rfl) | (simp only [setc_setc, setc_at]; done) | (simp only [setc_setc, setc_at]; rfl) | (funext d; simp only [setc_app]; (repeat' split) <;> first | rfl | omega))) ?_
                  have hE : EQ (hdP U (x 0) (21 + 5 * (x 0) 4)) (x 0) := EQ.hd v4
                  have hE2 : EQ (updI (updI (hdP U (x 0) (21 + 5 * (x 0) 4)) (21 + 5 * f) (kd : Int)) (21 + 5 * f + 1) ((h : Int) + 1)) (asP (x 0) f ((40 * kd + h : Nat) : Int)) := by
                    rw [has]
                    exact (hE.up (k := 21 + 5 * f) (kd : Int) (by omega)).up (k := 21 + 5 * f + 1) ((h : Int) + 1) (by omega)
                  have hVt := hE2.snd hz
                  have g1 : bkF (fun k => x 5 (40 * sh + k)) (updI (updI (hdP U (x 0) (21 + 5 * (x 0) 4)) (21 + 5 * f) (kd : Int)) (21 + 5 * f + 1) ((h : Int) + 1)) (x 9 (8 + 2 * sh)).toNat = bkF (shX x sh) (asP (x 0) f ((40 * kd + h : Nat) : Int)) (x 9 (8 + 2 * sh)).toNat := hE2.bk hz _
                  have g2 := bk_in (shX x sh) (asP (x 0) f ((40 * kd + h : Nat) : Int)) (x 9 (8 + 2 * sh)).toNat
                  have g3 : manyP (shX x sh) (x 0) f (x 9 (8 + 2 * sh)) (40 * kd + (h + 1)) = manyP (shX x sh) (x 0) f (x 9 (8 + 2 * sh)) (40 * kd + h) + bkF (shX x sh) (asP (x 0) f ((40 * kd + h : Nat) : Int)) (x 9 (8 + 2 * sh)).toNat := rfl
                  refine jx_aload_n E 4 dX5_read_68 rfl ?_
                  refine jx_get E f_X5 1 (v := .ref (a 13)) wx_obj (by decide) wf_X5_16 rfl dX5_read_69 ?_
                  refine jx_get E f_X4 6 (v := .ref (a 16)) (wx_town (j := 1) (by decide)) (by decide) wf_X5_104 rfl dX5_read_72 ?_
                  refine jx_iload_n E 6 dX5_read_75 rfl ?_
                  refine jx_aald E 2 (y := a (5 + 12 * 1 + f.toNat)) (wx_row (j := 1) (by decide)) rfl rfl (by omega) (by omega) (by decide) dX5_read_76 ?_
                  refine jx_iload E 1 dX5_read_77 rfl ?_
                  refine jx_put E f_X0 0 (wx_fou (j := 1) (by decide) (by omega) (by omega)) (by decide) wf_X5_112 rfl rfl rfl (Nat.le_of_ble_eq_true rfl) (wp_fou0 (j := 1) (by decide) (by omega) (by omega)) dX5_read_79 ?_
                  refine jx_eq (ws' := wsX G a (setc x 1 (updI (hdP U (x 0) (21 + 5 * (x 0) 4)) (21 + 5 * f) (kd : Int)))) (congrArg (wsX G a) (by first | rfl | (rw [setc_setc]; rfl) | exact setc_in _ _ _ _ (by decide) | exact setc_in2 _ _ _ _ _ (by decide) (by decide) | (rw [setc_in _ _ _ _ (by decide), setc_in _ _ _ _ (by decide)]; rfl) | (rw [setc_in _ _ _ _ (by decide), setc_setc]; rfl) | (simp only [setc_setc, setc_at]; done) | (simp only [setc_setc, setc_at]; rfl) | (funext d; simp only [setc_app]; (repeat' split) <;> first | rfl | omega))) ?_
                  refine jx_aload_n E 4 dX5_read_82 rfl ?_
                  refine jx_get E f_X5 1 (v := .ref (a 13)) wx_obj (by decide) wf_X5_16 rfl dX5_read_83 ?_
                  refine jx_get E f_X4 6 (v := .ref (a 16)) (wx_town (j := 1) (by decide)) (by decide) wf_X5_104 rfl dX5_read_86 ?_
                  refine jx_iload_n E 6 dX5_read_89 rfl ?_
                  refine jx_aald E 2 (y := a (5 + 12 * 1 + f.toNat)) (wx_row (j := 1) (by decide)) rfl rfl (by omega) (by omega) (by decide) dX5_read_90 ?_
                  refine jx_iload E 0 dX5_read_91 rfl ?_
                  refine jx_put E f_X0 1 (wx_fou (j := 1) (by decide) (by omega) (by omega)) (by decide) wf_X5_117 rfl rfl rfl (Nat.le_of_ble_eq_true rfl) (wp_fou1 (j := 1) (by decide) (by omega) (by omega)) dX5_read_93 ?_
                  refine jx_eq (ws' := wsX G a (setc x 1 (updI (updI (hdP U (x 0) (21 + 5 * (x 0) 4)) (21 + 5 * f) (kd : Int)) (21 + 5 * f + 1) ((h : Int) + 1)))) (congrArg (wsX G a) (by first | rfl | (rw [setc_setc]; rfl) | exact setc_in _ _ _ _ (by decide) | exact setc_in2 _ _ _ _ _ (by decide) (by decide) | (rw [setc_in _ _ _ _ (by decide), setc_in _ _ _ _ (by decide)]; rfl) | (rw [setc_in _ _ _ _ (by decide), setc_setc]; rfl) | (simp only [setc_setc, setc_at]; done) | (simp only [setc_setc, setc_at]; rfl) | (funext d; simp only [setc_app]; (repeat' split) <;> first | rfl | omega))) ?_
                  refine jx_aload_n E 4 dX5_read_96 rfl ?_
                  refine jx_get E f_X5 1 (v := .ref (a 13)) wx_obj (by decide) wf_X5_16 rfl dX5_read_97 ?_
                  refine jx_aload_n E 4 dX5_read_100 rfl ?_
                  refine jx_get E f_X5 6 (v := .ref (a 40)) wx_obj (by decide) wf_X5_45 rfl dX5_read_101 ?_
                  refine jx_iload_n E 5 dX5_read_104 rfl ?_
                  refine jx_aald E 3 (y := a (41 + 2 * sh.toNat)) wx_shts rfl rfl (by omega) (by omega) (by decide) dX5_read_105 ?_
                  refine jx_callVe E [.ref (a (41 + 2 * sh.toNat))] [] (c_X4_goesBy_1 l G a (setc x 1 (updI (updI (hdP U (x 0) (21 + 5 * (x 0) 4)) (21 + 5 * f) (kd : Int)) (21 + 5 * f + 1) ((h : Int) + 1))) (sh := sh) (VT_up hVt (by omega)) (by omega) (hS sh (by omega) (by omega))) mb_X4_goesBy mv_X4_goesBy wl_X5_240 f_X4 (wx_town (j := 1) (by decide)) dX5_read_106 (fun u5 => ?_)
                  refine jx_eq (ws' := wsX G a (setc x 1 u5)) (congrArg (wsX G a) (by first | rfl | (rw [setc_setc]; rfl) | exact setc_in _ _ _ _ (by decide) | exact setc_in2 _ _ _ _ _ (by decide) (by decide) | (rw [setc_in _ _ _ _ (by decide), setc_in _ _ _ _ (by decide)]; rfl) | (rw [setc_in _ _ _ _ (by decide), setc_setc]; rfl) | (simp only [setc_setc, setc_at]; done) | (simp only [setc_setc, setc_at]; rfl) | (funext d; simp only [setc_app]; (repeat' split) <;> first | rfl | omega))) ?_
                  refine jx_st (st' := [vI (bkF (fun k => (x 5) (40 * sh + k)) (updI (updI (hdP U (x 0) (21 + 5 * (x 0) 4)) (21 + 5 * f) (kd : Int)) (21 + 5 * f + 1) ((h : Int) + 1)) ((x 9) (8 + 2 * sh)).toNat)]) (by first | rfl | (simp only [setc_at]; done) | (simp only [setc_at]; rfl)) ?_
                  refine jx_if_eq (tgt := 115) E dX5_read_109 (by decide) (fun c6 => ?_) (fun c6 => ?_)
                  · skip
                    refine jx_iinc E 0 dX5_read_115 rfl (by decide) [(6, vI ((h : Int) + 1 + 1)), (5, vI (kd : Int)), (4, vI mq), (3, vI (nthR ((x 9) (7 + 2 * sh)) sh)), (0, .ref (a 0)), (1, vI sh), (2, vI f)] rfl ?_
                    refine jx_goto (tgt := 50) E dX5_read_118 (by decide) ?_
                    exact ih (h + 1) _ _ (by omega) (by omega) (by rw [g3]; omega)
                  · skip
                    refine jx_iinc E 2 dX5_read_112 rfl (by decide) [(4, vI (mq + 1)), (6, vI ((h : Int) + 1)), (5, vI (kd : Int)), (3, vI (nthR ((x 9) (7 + 2 * sh)) sh)), (0, .ref (a 0)), (1, vI sh), (2, vI f)] rfl ?_
                    refine jx_iinc E 1 dX5_read_115 rfl (by decide) [(6, vI ((h : Int) + 1 + 1)), (4, vI (mq + 1)), (5, vI (kd : Int)), (3, vI (nthR ((x 9) (7 + 2 * sh)) sh)), (0, .ref (a 0)), (1, vI sh), (2, vI f)] rfl ?_
                    refine jx_goto (tgt := 50) E dX5_read_118 (by decide) ?_
                    refine jx_lv (lv' := [(6, vI ((h : Int) + 1 + 1)), (5, vI (kd : Int)), (4, vI (mq + 1)), (3, vI (nthR ((x 9) (7 + 2 * sh)) sh)), (0, .ref (a 0)), (1, vI sh), (2, vI f)]) [0, 2, 1, 3, 4, 5, 6] rfl ?_
                    exact ih (h + 1) _ _ (by omega) (by omega) (by rw [g3]; omega)
            exact LP50 41 0 _ _ (by omega) (by omega) hmn
      refine jx_eq (ws' := wsX G a (setc x 1 (x 1))) (congrArg (wsX G a) (setc_self x 1).symm) ?_
      exact LP40 7 0 _ _ (by omega) (by omega) rfl
    · skip
      refine jx_aload_n E 1 dX5_read_27 rfl ?_
      refine jx_ldc E wc_X5_53 dX5_read_28 ?_
      refine jx_callVi E [vI (-1000000001)] [] (c_X5_found l G a x (f := (-1000000001)) (by omega)) mb_X5_found mv_X5_found wl_X5_54 f_X5 wx_obj dX5_read_30 ?_
      exact jx_iretE E hr dX5_read_33 (by simp only [readR]; rw [if_neg (by omega), if_neg (by omega)]) (x 1) (by rw [show readR (x 9 (7 + 2 * sh)) (x 9 (8 + 2 * sh)) (shX x sh) (x 0) sh f = -1000000001 from by (simp only [readR]; rw [if_neg (by omega), if_neg (by omega)]), endX_f (by decide)]; exact congrArg (wsX G a) (setc_self _ 1).symm)
  · skip
    refine jx_aload_n E 1 dX5_read_10 rfl ?_
    refine jx_iload_n E 0 dX5_read_11 rfl ?_
    refine jx_callVi E [vI (nthR ((x 9) (7 + 2 * sh)) sh)] [] (c_X5_found l G a x (f := nthR ((x 9) (7 + 2 * sh)) sh) (by omega)) mb_X5_found mv_X5_found wl_X5_54 f_X5 wx_obj dX5_read_12 ?_
    exact jx_iretE E hr dX5_read_15 (by simp only [readR]; rw [if_pos (by omega)]) (x 1) (by rw [show readR (x 9 (7 + 2 * sh)) (x 9 (8 + 2 * sh)) (shX x sh) (x 0) sh f = nthR (x 9 (7 + 2 * sh)) sh from by (simp only [readR]; rw [if_pos (by omega)]), endX_f (by omega)]; exact congrArg (wsX G a) (setc_self _ 1).symm)
