/-! 15.m5: laid by the walker out of specM5 -/
theorem boF_1 (t : Int → Int) (n k : Nat) : (boF t n (k + 1)).1 = if t (21 + 5 * (k : Int) + 2) = 1 then (boF t n k).1 else if (boF t n k).2 < daysP n (updI t (21 + 5 * (k : Int) + 2) 1) 1 then (k : Int) else (boF t n k).1 := by simp only [boF]; (repeat' split) <;> rfl
theorem boF_2 (t : Int → Int) (n k : Nat) : (boF t n (k + 1)).2 = if t (21 + 5 * (k : Int) + 2) = 1 then (boF t n k).2 else if (boF t n k).2 < daysP n (updI t (21 + 5 * (k : Int) + 2) 1) 1 then daysP n (updI t (21 + 5 * (k : Int) + 2) 1) 1 else (boF t n k).2 := by simp only [boF]; (repeat' split) <;> rfl
theorem kdF_1 (t : Int → Int) (f : Int) (k : Nat) : (kdF t f (k + 1)).1 = if (kdF t f k).2 < offF f 401 (updI t (21 + 5 * f) k) then (k : Int) else (kdF t f k).1 := by simp only [kdF]; (repeat' split) <;> rfl
theorem kdF_2 (t : Int → Int) (f : Int) (k : Nat) : (kdF t f (k + 1)).2 = if (kdF t f k).2 < offF f 401 (updI t (21 + 5 * f) k) then offF f 401 (updI t (21 + 5 * f) k) else (kdF t f k).2 := by simp only [kdF]; (repeat' split) <;> rfl
theorem rnF_1 (t : Int → Int) (n k : Nat) : (rnF t n (k + 1)).1 = if (rnF t n k).2 < noiseP (daysP n (updI t (5 + (k : Int)) (min 99 (t (5 + (k : Int)) + 10)))) then (k : Int) else (rnF t n k).1 := by simp only [rnF]; (repeat' split) <;> rfl
theorem rnF_2 (t : Int → Int) (n k : Nat) : (rnF t n (k + 1)).2 = if (rnF t n k).2 < noiseP (daysP n (updI t (5 + (k : Int)) (min 99 (t (5 + (k : Int)) + 10)))) then noiseP (daysP n (updI t (5 + (k : Int)) (min 99 (t (5 + (k : Int)) + 10)))) else (rnF t n k).2 := by simp only [rnF]; (repeat' split) <;> rfl
theorem ruF_1 (t : Int → Int) (n k : Nat) : (ruF t n (k + 1)).1 = if (ruF t n k).1 < 0 ∨ stoopedP (daysP n (updI t 2 (50 * (k : Int)))) < (ruF t n k).2 then 50 * (k : Int) else (ruF t n k).1 := by simp only [ruF]; (repeat' split) <;> rfl
theorem ruF_2 (t : Int → Int) (n k : Nat) : (ruF t n (k + 1)).2 = if (ruF t n k).1 < 0 ∨ stoopedP (daysP n (updI t 2 (50 * (k : Int)))) < (ruF t n k).2 then stoopedP (daysP n (updI t 2 (50 * (k : Int)))) else (ruF t n k).2 := by simp only [ruF]; (repeat' split) <;> rfl
set_option maxHeartbeats 4000000 in
theorem c_X6_best (l : Launch) (G : GT) (b : Nat → Nat) (y : MS) {n : Int} (h1 : VT 99999 (y 0)) (h2 : inR n) : CtI l G yX6_best cX6_best 6 (some .int) 7 [.ref (b 0), vI n] (wsM G b y) (bestR (y 0) n) (wsM G b (endM (if v100 n then thinkM y else y) (bestR (y 0) n))) := by
  obtain ⟨v0, v1, v2, v3, v4, v5, v6, v7⟩ := id h1
  unfold inR at h2
  refine CtI.of (by decide) (Nat.le_of_ble_eq_true rfl) ?_
  intro p e s m args below meth c A E hr
  refine jx_lv (lv' := [(0, .ref (b 0)), (1, vI n)]) [0, 1] rfl ?_
  refine jx_iload_n E 1 dX6_best_0 rfl ?_
  refine jx_i2l E dX6_best_1 ?_
  refine jx_iconst E dX6_best_2 ?_
  refine jx_bipush E dX6_best_3 ?_
  refine jx_callSi E [vL n, vI 1, vI 100] [] (c_X6_in l G (wsM G b y) (v := n) (lo := 1) (hi := 100) (by unfold inL; omega) (by unfold inR; omega) (by unfold inR; omega)) mb_X6_in ms_X6_in wl_X6_41 dX6_best_5 ?_
  refine jx_if_ne (tgt := 18) E dX6_best_8 (by decide) (fun c1 => ?_) (fun c1 => ?_)
  · skip
    refine jx_aload_n E 0 dX6_best_18 rfl ?_
    refine jx_callVv E [] [] (c_X6_thinks l G b y  ) mb_X6_thinks mv_X6_thinks wl_X6_134 f_X6 wm_obj dX6_best_19 ?_
    refine jx_eq (ws' := wsM G b (setc (setc y 2 (y 0)) 0 (y 0))) (congrArg (wsM G b) (by first | rfl | (rw [setc_setc]; rfl) | (simp only [setc_setc, setc_at]; done) | (simp only [setc_setc, setc_at]; rfl) | (funext d; simp only [setc_app]; (repeat' split) <;> first | rfl | omega | simp_all))) ?_
    refine jx_iconst E dX6_best_22 ?_
    refine jx_istore_n E dX6_best_23 (by decide) [(2, vI (-1)), (0, .ref (b 0)), (1, vI n)] rfl ?_
    refine jx_iconst E dX6_best_24 ?_
    refine jx_istore_n E dX6_best_25 (by decide) [(3, vI (-1)), (2, vI (-1)), (0, .ref (b 0)), (1, vI n)] rfl ?_
    refine jx_iconst E dX6_best_26 ?_
    refine jx_istore E dX6_best_27 (by decide) [(4, vI 0), (3, vI (-1)), (2, vI (-1)), (0, .ref (b 0)), (1, vI n)] rfl ?_
    have LP29 : ∀ (n2 : Nat) (k : Nat) (bs : Int) (ms : Int), ((k : Int) ≤ y 0 4) → (y 0 4 - (k : Int) < n2) → (bs = (boF (y 0) n.toNat k).1) → (ms = (boF (y 0) n.toNat k).2) → (-1 ≤ bs ∧ bs ≤ 8 ∧ -1 ≤ ms ∧ ms ≤ 9999) → JX p l e (rmL 7) s m args below meth c 6 G A 0 0 (QI below args s G A (bestR (y 0) n) (wsM G b (endM (if v100 n then thinkM y else y) (bestR (y 0) n)))) (wsM G b (setc (setc y 2 (y 0)) 0 (y 0))) 29 [(4, vI (k : Int)), (3, vI ms), (2, vI bs), (0, .ref (b 0)), (1, vI n)] [] := by
      intro n2
      induction n2 with
      | zero => intro k bs ms q1 q2 hb hm hr2; exfalso; omega
      | succ n2 ih =>
        intro k bs ms q1 q2 hb hm hr2
        refine jx_iload E 0 dX6_best_29 rfl ?_
        refine jx_aload_n E 3 dX6_best_31 rfl ?_
        refine jx_get E f_X6 0 (v := .ref (b 1)) wm_obj (by decide) wf_X6_9 rfl dX6_best_32 ?_
        refine jx_iconst E dX6_best_35 ?_
        refine jx_iald E (v := (y 0) 4) wm_m (row0_at (by omega) (by omega)) (by omega) (by omega) (by decide) dX6_best_36 ?_
        refine jx_icmp_ge (tgt := 106) E dX6_best_37 (by decide) (fun c2 => ?_) (fun c2 => ?_)
        · skip
          refine jx_aload_n E 3 dX6_best_106 rfl ?_
          refine jx_iload_n E 2 dX6_best_107 rfl ?_
          refine jx_callVi E [vI bs] [] (c_X6_orNone l G b (setc (setc y 2 (y 0)) 0 (y 0)) (v := bs) (by unfold inR; omega)) mb_X6_orNone mv_X6_orNone wl_X6_109 f_X6 wm_obj dX6_best_108 ?_
          refine jx_st (st' := [vI (noneR bs)]) (by first | rfl | (simp only [setc_at]; done) | (simp only [setc_at]; rfl)) ?_
          exact jx_iret E hr dX6_best_111 (by have hV : v100 n := (by omega); simp only [bestR, if_pos hV]; rw [hb, show k = (y 0 4).toNat by omega]) (by have hV : v100 n := (by omega); simp only [bestR, if_pos hV]; rw [hb, show k = (y 0 4).toNat by omega]; rfl)
        · skip
          have q3 : (k : Int) < y 0 4 := by omega
          have hz := VT_days (VT_fou h1 (i := (k : Int)) (f := 2) (v := 1) (by omega) (by omega) (by omega)) n.toNat
          have hz1 := hz.2.1
          have hoff := (v7 k (by omega) q3).2.2.1
          refine jx_aload_n E 3 dX6_best_40 rfl ?_
          refine jx_iload E 0 dX6_best_41 rfl ?_
          refine jx_callVi E [vI (k : Int)] [] (c_X6_isOff l G b (setc (setc y 2 (y 0)) 0 (y 0)) (f := (k : Int)) (by omega) (by omega) (v7 k (by omega) q3).2.2.1) mb_X6_isOff mv_X6_isOff wl_X6_57 f_X6 wm_obj dX6_best_43 ?_
          refine jx_st (st' := [vI (if (y 0) (21 + 5 * (k : Int) + 2) = 1 then 1 else 0)]) (by first | rfl | (simp only [setc_at]; done) | (simp only [setc_at]; rfl)) ?_
          refine jx_if_ne (tgt := 100) E dX6_best_46 (by decide) (fun c3 => ?_) (fun c3 => ?_)
          · skip
            refine jx_iinc E 0 dX6_best_100 rfl (by decide) [(4, vI ((k : Int) + 1)), (3, vI ms), (2, vI bs), (0, .ref (b 0)), (1, vI n)] rfl ?_
            refine jx_goto (tgt := 29) E dX6_best_103 (by decide) ?_
            exact ih (k + 1) _ _ (by omega) (by omega) (by rw [boF_1]; omega) (by rw [boF_2]; omega) (by omega)
          · skip
            refine jx_aload_n E 3 dX6_best_49 rfl ?_
            refine jx_iload E 0 dX6_best_50 rfl ?_
            refine jx_iconst E dX6_best_52 ?_
            refine jx_iconst E dX6_best_53 ?_
            refine jx_callVv E [vI (k : Int), vI 2, vI 1] [] (c_X6_put l G b (setc (setc y 2 (y 0)) 0 (y 0)) (f := (k : Int)) (what := 2) (v := 1) (by omega) (by omega) (by omega) (by omega)) mb_X6_put mv_X6_put wl_X6_86 f_X6 wm_obj dX6_best_54 ?_
            refine jx_eq (ws' := wsM G b (setc (setc y 2 (y 0)) 0 (updI (y 0) (21 + 5 * (k : Int) + 2) 1))) (congrArg (wsM G b) (by first | rfl | (rw [setc_setc]; rfl) | (simp only [setc_setc, setc_at]; done) | (simp only [setc_setc, setc_at]; rfl) | (funext d; simp only [setc_app]; (repeat' split) <;> first | rfl | omega | simp_all))) ?_
            refine jx_aload_n E 3 dX6_best_57 rfl ?_
            refine jx_iload_n E 4 dX6_best_58 rfl ?_
            refine jx_callVv E [vI n] [] (c_X6_goesFor l G b (setc (setc y 2 (y 0)) 0 (updI (y 0) (21 + 5 * (k : Int) + 2) 1)) (n := n) (VT_up (VT_fou h1 (i := (k : Int)) (f := 2) (by omega) (by omega) (by omega)) (by omega)) (by omega)) mb_X6_goesFor mv_X6_goesFor wl_X6_127 f_X6 wm_obj dX6_best_59 ?_
            refine jx_eq (ws' := wsM G b (setc (setc y 2 (y 0)) 0 (daysP n.toNat (updI (y 0) (21 + 5 * (k : Int) + 2) 1)))) (congrArg (wsM G b) (by first | rfl | (rw [setc_setc]; rfl) | (simp only [setc_setc, setc_at]; done) | (simp only [setc_setc, setc_at]; rfl) | (funext d; simp only [setc_app]; (repeat' split) <;> first | rfl | omega | simp_all))) ?_
            refine jx_aload_n E 3 dX6_best_62 rfl ?_
            refine jx_get E f_X6 0 (v := .ref (b 1)) wm_obj (by decide) wf_X6_9 rfl dX6_best_63 ?_
            refine jx_iconst E dX6_best_66 ?_
            refine jx_iald E (v := (daysP n.toNat (updI (y 0) (21 + 5 * (k : Int) + 2) 1)) 1) wm_m (row0_at (by omega) (by omega)) (by omega) (by omega) (by decide) dX6_best_67 ?_
            refine jx_istore E dX6_best_68 (by decide) [(5, vI ((daysP n.toNat (updI (y 0) (21 + 5 * (k : Int) + 2) 1)) 1)), (4, vI (k : Int)), (3, vI ms), (2, vI bs), (0, .ref (b 0)), (1, vI n)] rfl ?_
            refine jx_aload_n E 4 dX6_best_70 rfl ?_
            refine jx_callVv E [] [] (c_X6_putsBack l G b (setc (setc y 2 (y 0)) 0 (daysP n.toNat (updI (y 0) (21 + 5 * (k : Int) + 2) 1)))  ) mb_X6_putsBack mv_X6_putsBack wl_X6_137 f_X6 wm_obj dX6_best_71 ?_
            refine jx_eq (ws' := wsM G b (setc (setc y 2 (y 0)) 0 (y 0))) (congrArg (wsM G b) (by first | rfl | (rw [setc_setc]; rfl) | (simp only [setc_setc, setc_at]; done) | (simp only [setc_setc, setc_at]; rfl) | (funext d; simp only [setc_app]; (repeat' split) <;> first | rfl | omega | simp_all))) ?_
            refine jx_iload E 0 dX6_best_74 rfl ?_
            refine jx_iload_n E 2 dX6_best_76 rfl ?_
            refine jx_icmp_le (tgt := 85) E dX6_best_77 (by decide) (fun c4 => ?_) (fun c4 => ?_)
            · skip
              refine jx_iload_n E 3 dX6_best_85 rfl ?_
              refine jx_istore_n E dX6_best_86 (by decide) [(2, vI bs), (5, vI ((daysP n.toNat (updI (y 0) (21 + 5 * (k : Int) + 2) 1)) 1)), (4, vI (k : Int)), (3, vI ms), (0, .ref (b 0)), (1, vI n)] rfl ?_
              refine jx_iload E 1 dX6_best_87 rfl ?_
              refine jx_iload_n E 3 dX6_best_89 rfl ?_
              refine jx_icmp_le (tgt := 98) E dX6_best_90 (by decide) (fun c5 => ?_) (fun c5 => ?_)
              · skip
                refine jx_iload_n E 3 dX6_best_98 rfl ?_
                refine jx_istore_n E dX6_best_99 (by decide) [(3, vI ms), (2, vI bs), (5, vI ((daysP n.toNat (updI (y 0) (21 + 5 * (k : Int) + 2) 1)) 1)), (4, vI (k : Int)), (0, .ref (b 0)), (1, vI n)] rfl ?_
                refine jx_iinc E 3 dX6_best_100 rfl (by decide) [(4, vI ((k : Int) + 1)), (3, vI ms), (2, vI bs), (5, vI ((daysP n.toNat (updI (y 0) (21 + 5 * (k : Int) + 2) 1)) 1)), (0, .ref (b 0)), (1, vI n)] rfl ?_
                refine jx_goto (tgt := 29) E dX6_best_103 (by decide) ?_
                refine jx_lv (lv' := [(4, vI ((k : Int) + 1)), (3, vI ms), (2, vI bs), (0, .ref (b 0)), (1, vI n)]) [0, 1, 2, 4, 5] rfl ?_
                exact ih (k + 1) _ _ (by omega) (by omega) (by rw [boF_1]; omega) (by rw [boF_2]; omega) (by omega)
              · skip
                refine jx_iload E 1 dX6_best_93 rfl ?_
                refine jx_goto (tgt := 99) E dX6_best_95 (by decide) ?_
                refine jx_istore_n E dX6_best_99 (by decide) [(3, vI ((daysP n.toNat (updI (y 0) (21 + 5 * (k : Int) + 2) 1)) 1)), (2, vI bs), (5, vI ((daysP n.toNat (updI (y 0) (21 + 5 * (k : Int) + 2) 1)) 1)), (4, vI (k : Int)), (0, .ref (b 0)), (1, vI n)] rfl ?_
                refine jx_iinc E 3 dX6_best_100 rfl (by decide) [(4, vI ((k : Int) + 1)), (3, vI ((daysP n.toNat (updI (y 0) (21 + 5 * (k : Int) + 2) 1)) 1)), (2, vI bs), (5, vI ((daysP n.toNat (updI (y 0) (21 + 5 * (k : Int) + 2) 1)) 1)), (0, .ref (b 0)), (1, vI n)] rfl ?_
                refine jx_goto (tgt := 29) E dX6_best_103 (by decide) ?_
                refine jx_lv (lv' := [(4, vI ((k : Int) + 1)), (3, vI ((daysP n.toNat (updI (y 0) (21 + 5 * (k : Int) + 2) 1)) 1)), (2, vI bs), (0, .ref (b 0)), (1, vI n)]) [0, 1, 2, 4, 5] rfl ?_
                exact ih (k + 1) _ _ (by omega) (by omega) (by rw [boF_1]; omega) (by rw [boF_2]; omega) (by omega)
            · skip
              refine jx_iload E 1 dX6_best_80 rfl ?_
              refine jx_goto (tgt := 86) E dX6_best_82 (by decide) ?_
              refine jx_istore_n E dX6_best_86 (by decide) [(2, vI (k : Int)), (5, vI ((daysP n.toNat (updI (y 0) (21 + 5 * (k : Int) + 2) 1)) 1)), (4, vI (k : Int)), (3, vI ms), (0, .ref (b 0)), (1, vI n)] rfl ?_
              refine jx_iload E 1 dX6_best_87 rfl ?_
              refine jx_iload_n E 3 dX6_best_89 rfl ?_
              refine jx_icmp_le (tgt := 98) E dX6_best_90 (by decide) (fun c6 => ?_) (fun c6 => ?_)
              · skip
                refine jx_iload_n E 3 dX6_best_98 rfl ?_
                refine jx_istore_n E dX6_best_99 (by decide) [(3, vI ms), (2, vI (k : Int)), (5, vI ((daysP n.toNat (updI (y 0) (21 + 5 * (k : Int) + 2) 1)) 1)), (4, vI (k : Int)), (0, .ref (b 0)), (1, vI n)] rfl ?_
                refine jx_iinc E 3 dX6_best_100 rfl (by decide) [(4, vI ((k : Int) + 1)), (3, vI ms), (2, vI (k : Int)), (5, vI ((daysP n.toNat (updI (y 0) (21 + 5 * (k : Int) + 2) 1)) 1)), (0, .ref (b 0)), (1, vI n)] rfl ?_
                refine jx_goto (tgt := 29) E dX6_best_103 (by decide) ?_
                refine jx_lv (lv' := [(4, vI ((k : Int) + 1)), (3, vI ms), (2, vI (k : Int)), (0, .ref (b 0)), (1, vI n)]) [0, 1, 2, 4, 5] rfl ?_
                exact ih (k + 1) _ _ (by omega) (by omega) (by rw [boF_1]; omega) (by rw [boF_2]; omega) (by omega)
              · skip
                refine jx_iload E 1 dX6_best_93 rfl ?_
                refine jx_goto (tgt := 99) E dX6_best_95 (by decide) ?_
                refine jx_istore_n E dX6_best_99 (by decide) [(3, vI ((daysP n.toNat (updI (y 0) (21 + 5 * (k : Int) + 2) 1)) 1)), (2, vI (k : Int)), (5, vI ((daysP n.toNat (updI (y 0) (21 + 5 * (k : Int) + 2) 1)) 1)), (4, vI (k : Int)), (0, .ref (b 0)), (1, vI n)] rfl ?_
                refine jx_iinc E 3 dX6_best_100 rfl (by decide) [(4, vI ((k : Int) + 1)), (3, vI ((daysP n.toNat (updI (y 0) (21 + 5 * (k : Int) + 2) 1)) 1)), (2, vI (k : Int)), (5, vI ((daysP n.toNat (updI (y 0) (21 + 5 * (k : Int) + 2) 1)) 1)), (0, .ref (b 0)), (1, vI n)] rfl ?_
                refine jx_goto (tgt := 29) E dX6_best_103 (by decide) ?_
                refine jx_lv (lv' := [(4, vI ((k : Int) + 1)), (3, vI ((daysP n.toNat (updI (y 0) (21 + 5 * (k : Int) + 2) 1)) 1)), (2, vI (k : Int)), (0, .ref (b 0)), (1, vI n)]) [0, 1, 2, 4, 5] rfl ?_
                exact ih (k + 1) _ _ (by omega) (by omega) (by rw [boF_1]; omega) (by rw [boF_2]; omega) (by omega)
    exact LP29 9 0 _ _ (by omega) (by omega) rfl rfl (by omega)
  · skip
    refine jx_aload_n E 0 dX6_best_11 rfl ?_
    refine jx_ldc E wc_X6_35 dX6_best_12 ?_
    refine jx_callVi E [vI (-1000000001)] [] (c_X6_finds l G b y (f := (-1000000001)) (by omega)) mb_X6_finds mv_X6_finds wl_X6_37 f_X6 wm_obj dX6_best_14 ?_
    exact jx_iret E hr dX6_best_17 (by have hV : ¬ (v100 n) := (by omega); simp only [bestR, if_neg hV]) (by have hV : ¬ (v100 n) := (by omega); simp only [bestR, if_neg hV]; rw [endM_f (by decide)])
set_option maxHeartbeats 4000000 in
theorem c_X6_high (l : Launch) (G : GT) (b : Nat → Nat) (y : MS) {f n : Int} (h1 : VT 99999 (y 0)) (h2 : inR f) (h3 : inR n) : CtI l G yX6_high cX6_high 5 (some .int) 8 [.ref (b 0), vI f, vI n] (wsM G b y) (highR (y 0) f n) (wsM G b (endM (if vFou (y 0) f ∧ v100 n then thinkM y else y) (highR (y 0) f n))) := by
  obtain ⟨v0, v1, v2, v3, v4, v5, v6, v7⟩ := id h1
  unfold inR at h2 h3
  obtain ⟨RR, hRR⟩ : ∃ RR, highF (y 0) f n.toNat 40 = RR := ⟨_, rfl⟩
  refine CtI.of (by decide) (Nat.le_of_ble_eq_true rfl) ?_
  intro p e s m args below meth c A E hr
  refine jx_lv (lv' := [(0, .ref (b 0)), (1, vI f), (2, vI n)]) [0, 1, 2] rfl ?_
  refine jx_aload_n E 0 dX6_high_0 rfl ?_
  refine jx_iload_n E 1 dX6_high_1 rfl ?_
  refine jx_callVi E [vI f] [] (c_X6_isFountain l G b y (f := f) (by unfold inR; omega) (by omega)) mb_X6_isFountain mv_X6_isFountain wl_X6_95 f_X6 wm_obj dX6_high_2 ?_
  refine jx_if_eq (tgt := 19) E dX6_high_5 (by decide) (fun c1 => ?_) (fun c1 => ?_)
  · skip
    refine jx_aload_n E 0 dX6_high_19 rfl ?_
    refine jx_ldc E wc_X6_35 dX6_high_20 ?_
    refine jx_callVi E [vI (-1000000001)] [] (c_X6_finds l G b y (f := (-1000000001)) (by omega)) mb_X6_finds mv_X6_finds wl_X6_37 f_X6 wm_obj dX6_high_22 ?_
    exact jx_iret E hr dX6_high_25 (by have hV : ¬ (vFou (y 0) f ∧ v100 n) := (by omega); simp only [highR, if_neg hV]) (by have hV : ¬ (vFou (y 0) f ∧ v100 n) := (by omega); simp only [highR, if_neg hV]; rw [endM_f (by decide)])
  · skip
    refine jx_iload_n E 2 dX6_high_8 rfl ?_
    refine jx_i2l E dX6_high_9 ?_
    refine jx_iconst E dX6_high_10 ?_
    refine jx_bipush E dX6_high_11 ?_
    refine jx_callSi E [vL n, vI 1, vI 100] [] (c_X6_in l G (wsM G b y) (v := n) (lo := 1) (hi := 100) (by unfold inL; omega) (by unfold inR; omega) (by unfold inR; omega)) mb_X6_in ms_X6_in wl_X6_41 dX6_high_13 ?_
    refine jx_if_ne (tgt := 26) E dX6_high_16 (by decide) (fun c2 => ?_) (fun c2 => ?_)
    · skip
      refine jx_aload_n E 0 dX6_high_26 rfl ?_
      refine jx_callVv E [] [] (c_X6_thinks l G b y  ) mb_X6_thinks mv_X6_thinks wl_X6_134 f_X6 wm_obj dX6_high_27 ?_
      refine jx_eq (ws' := wsM G b (setc (setc y 2 (y 0)) 0 (y 0))) (congrArg (wsM G b) (by first | rfl | (rw [setc_setc]; rfl) | (simp only [setc_setc, setc_at]; done) | (simp only [setc_setc, setc_at]; rfl) | (funext d; simp only [setc_app]; (repeat' split) <;> first | rfl | omega | simp_all))) ?_
      refine jx_iconst E dX6_high_30 ?_
      refine jx_istore_n E dX6_high_31 (by decide) [(3, vI (-1)), (0, .ref (b 0)), (1, vI f), (2, vI n)] rfl ?_
      refine jx_bipush E dX6_high_32 ?_
      refine jx_istore E dX6_high_34 (by decide) [(4, vI 40), (3, vI (-1)), (0, .ref (b 0)), (1, vI f), (2, vI n)] rfl ?_
      have LP36 : ∀ (n2 : Nat) (k : Nat) (bs : Int), (k ≤ 40) → (k < n2) → (-1 ≤ bs ∧ bs ≤ 40) → ((if bs < 0 then highF (y 0) f n.toNat k else bs) = RR) → (bs < 0 → bs = -1) → JX p l e (rmL 8) s m args below meth c 5 G A 0 0 (QI below args s G A (highR (y 0) f n) (wsM G b (endM (if vFou (y 0) f ∧ v100 n then thinkM y else y) (highR (y 0) f n)))) (wsM G b (setc (setc y 2 (y 0)) 0 (y 0))) 36 [(4, vI (k : Int)), (3, vI bs), (0, .ref (b 0)), (1, vI f), (2, vI n)] [] := by
        intro n2
        induction n2 with
        | zero => intro k bs q1 q2 q3 hQ q4; exfalso; omega
        | succ n2 ih =>
          intro k bs q1 q2 q3 hQ q4
          refine jx_iload E 0 dX6_high_36 rfl ?_
          refine jx_if_le (tgt := 75) E dX6_high_38 (by decide) (fun c3 => ?_) (fun c3 => ?_)
          · skip
            have hE : bs = RR := by
              rw [← hQ]
              split
              · first | (exfalso; omega) | (rw [show k = 0 by omega]; simp only [highF]; omega)
              · rfl
            refine jx_aload_n E 2 dX6_high_75 rfl ?_
            refine jx_iload_n E 1 dX6_high_76 rfl ?_
            refine jx_callVi E [vI bs] [] (c_X6_orNone l G b (setc (setc y 2 (y 0)) 0 (y 0)) (v := bs) (by unfold inR; omega)) mb_X6_orNone mv_X6_orNone wl_X6_109 f_X6 wm_obj dX6_high_77 ?_
            refine jx_st (st' := [vI (noneR bs)]) (by first | rfl | (simp only [setc_at]; done) | (simp only [setc_at]; rfl)) ?_
            exact jx_iret E hr dX6_high_80 (by have hV : vFou (y 0) f ∧ v100 n := (by omega); simp only [highR, if_pos hV]; rw [hRR, hE]) (by have hV : vFou (y 0) f ∧ v100 n := (by omega); simp only [highR, if_pos hV]; rw [hRR, hE]; rfl)
          · skip
            refine jx_iload_n E 1 dX6_high_41 rfl ?_
            refine jx_if_ge (tgt := 75) E dX6_high_42 (by decide) (fun c4 => ?_) (fun c4 => ?_)
            · skip
              have hE : bs = RR := by
                rw [← hQ]
                split
                · first | (exfalso; omega) | (rw [show k = 0 by omega]; simp only [highF]; omega)
                · rfl
              refine jx_aload_n E 2 dX6_high_75 rfl ?_
              refine jx_iload_n E 1 dX6_high_76 rfl ?_
              refine jx_callVi E [vI bs] [] (c_X6_orNone l G b (setc (setc y 2 (y 0)) 0 (y 0)) (v := bs) (by unfold inR; omega)) mb_X6_orNone mv_X6_orNone wl_X6_109 f_X6 wm_obj dX6_high_77 ?_
              refine jx_st (st' := [vI (noneR bs)]) (by first | rfl | (simp only [setc_at]; done) | (simp only [setc_at]; rfl)) ?_
              exact jx_iret E hr dX6_high_80 (by have hV : vFou (y 0) f ∧ v100 n := (by omega); simp only [highR, if_pos hV]; rw [hRR, hE]) (by have hV : vFou (y 0) f ∧ v100 n := (by omega); simp only [highR, if_pos hV]; rw [hRR, hE]; rfl)
            · skip
              have hz := VT_fou h1 (i := f) (f := 1) (v := (k : Int)) (by omega) (by omega) (by omega)
              have hsi : staysI (updI (y 0) (21 + 5 * f + 1) (k : Int)) f n.toNat = 0 ∨ staysI (updI (y 0) (21 + 5 * f + 1) (k : Int)) f n.toNat = 1 := by unfold staysI; omega
              refine jx_aload_n E 2 dX6_high_45 rfl ?_
              refine jx_iload_n E 3 dX6_high_46 rfl ?_
              refine jx_iconst E dX6_high_47 ?_
              refine jx_iload E 0 dX6_high_48 rfl ?_
              refine jx_callVv E [vI f, vI 1, vI (k : Int)] [] (c_X6_put l G b (setc (setc y 2 (y 0)) 0 (y 0)) (f := f) (what := 1) (v := (k : Int)) (by omega) (by omega) (by omega) (by omega)) mb_X6_put mv_X6_put wl_X6_86 f_X6 wm_obj dX6_high_50 ?_
              refine jx_eq (ws' := wsM G b (setc (setc y 2 (y 0)) 0 (updI (y 0) (21 + 5 * f + 1) (k : Int)))) (congrArg (wsM G b) (by first | rfl | (rw [setc_setc]; rfl) | (simp only [setc_setc, setc_at]; done) | (simp only [setc_setc, setc_at]; rfl) | (funext d; simp only [setc_app]; (repeat' split) <;> first | rfl | omega | simp_all))) ?_
              refine jx_aload_n E 2 dX6_high_53 rfl ?_
              refine jx_iload_n E 3 dX6_high_54 rfl ?_
              refine jx_iload_n E 4 dX6_high_55 rfl ?_
              refine jx_callVi E [vI f, vI n] [] (c_X6_staysUp l G b (setc (setc y 2 (y 0)) 0 (updI (y 0) (21 + 5 * f + 1) (k : Int))) (f := f) (n := n) (VT_up hz (by omega)) (show 0 ≤ f ∧ f < updI (y 0) (21 + 5 * f + 1) (k : Int) 4 by rw [updI_ne _ _ (by omega)]; omega) (by omega)) mb_X6_staysUp mv_X6_staysUp wl_X6_146 f_X6 wm_obj dX6_high_56 ?_
              refine jx_eq (ws' := wsM G b (setc (setc y 2 (y 0)) 0 (y 0))) (congrArg (wsM G b) (by first | rfl | (rw [setc_setc]; rfl) | (simp only [setc_setc, setc_at]; done) | (simp only [setc_setc, setc_at]; rfl) | (funext d; simp only [setc_app]; (repeat' split) <;> first | rfl | omega | simp_all))) ?_
              refine jx_st (st' := [vI (staysI (updI (y 0) (21 + 5 * f + 1) (k : Int)) f n.toNat)]) (by first | rfl | (simp only [setc_at]; done) | (simp only [setc_at]; rfl)) ?_
              refine jx_if_eq (tgt := 67) E dX6_high_59 (by decide) (fun c5 => ?_) (fun c5 => ?_)
              · skip
                refine jx_iconst E dX6_high_67 ?_
                refine jx_istore_n E dX6_high_68 (by decide) [(3, vI (-1)), (4, vI (k : Int)), (0, .ref (b 0)), (1, vI f), (2, vI n)] rfl ?_
                refine jx_iinc E 1 dX6_high_69 rfl (by decide) [(4, vI ((k : Int) + (-1))), (3, vI (-1)), (0, .ref (b 0)), (1, vI f), (2, vI n)] rfl ?_
                refine jx_goto (tgt := 36) E dX6_high_72 (by decide) ?_
                obtain ⟨k', rfl⟩ : ∃ k', k = k' + 1 := ⟨k - 1, by omega⟩
                refine jx_lve (congrArg (fun z => [(4, vI z), (3, vI (-1)), (0, Value.ref (b 0)), (1, vI f), (2, vI n)]) (show ((k' + 1 : Nat) : Int) + (-1) = (k' : Int) by omega)) ?_
                rw [if_pos (by omega), highF, show (k' : Int) + 1 = ((k' + 1 : Nat) : Int) by omega] at hQ
                exact ih k' _ (by omega) (by omega) (by omega) (by rw [← hQ]; (repeat' split) <;> first | (exfalso; omega) | rfl) (by omega)
              · skip
                refine jx_iload E 0 dX6_high_62 rfl ?_
                refine jx_goto (tgt := 68) E dX6_high_64 (by decide) ?_
                refine jx_istore_n E dX6_high_68 (by decide) [(3, vI (k : Int)), (4, vI (k : Int)), (0, .ref (b 0)), (1, vI f), (2, vI n)] rfl ?_
                refine jx_iinc E 1 dX6_high_69 rfl (by decide) [(4, vI ((k : Int) + (-1))), (3, vI (k : Int)), (0, .ref (b 0)), (1, vI f), (2, vI n)] rfl ?_
                refine jx_goto (tgt := 36) E dX6_high_72 (by decide) ?_
                obtain ⟨k', rfl⟩ : ∃ k', k = k' + 1 := ⟨k - 1, by omega⟩
                refine jx_lve (congrArg (fun z => [(4, vI z), (3, vI ((k' + 1 : Nat) : Int)), (0, Value.ref (b 0)), (1, vI f), (2, vI n)]) (show ((k' + 1 : Nat) : Int) + (-1) = (k' : Int) by omega)) ?_
                rw [if_pos (by omega), highF, show (k' : Int) + 1 = ((k' + 1 : Nat) : Int) by omega] at hQ
                exact ih k' _ (by omega) (by omega) (by omega) (by rw [← hQ]; (repeat' split) <;> first | (exfalso; omega) | rfl) (by omega)
      exact LP36 41 40 _ (by omega) (by omega) (by omega) (by rw [if_pos (by decide)]; exact hRR) (by omega)
    · skip
      refine jx_aload_n E 0 dX6_high_19 rfl ?_
      refine jx_ldc E wc_X6_35 dX6_high_20 ?_
      refine jx_callVi E [vI (-1000000001)] [] (c_X6_finds l G b y (f := (-1000000001)) (by omega)) mb_X6_finds mv_X6_finds wl_X6_37 f_X6 wm_obj dX6_high_22 ?_
      exact jx_iret E hr dX6_high_25 (by have hV : ¬ (vFou (y 0) f ∧ v100 n) := (by omega); simp only [highR, if_neg hV]) (by have hV : ¬ (vFou (y 0) f ∧ v100 n) := (by omega); simp only [highR, if_neg hV]; rw [endM_f (by decide)])
set_option maxHeartbeats 4000000 in
theorem c_X6_loved (l : Launch) (G : GT) (b : Nat → Nat) (y : MS) {f n : Int} (h1 : VT 99999 (y 0)) (h2 : inR f) (h3 : inR n) : CtI l G yX6_loved cX6_loved 5 (some .int) 8 [.ref (b 0), vI f, vI n] (wsM G b y) (lovedR (y 0) f n) (wsM G b (endM (if vFou (y 0) f ∧ v100 n then thinkM y else y) (lovedR (y 0) f n))) := by
  obtain ⟨v0, v1, v2, v3, v4, v5, v6, v7⟩ := id h1
  unfold inR at h2 h3
  obtain ⟨RR, hRR⟩ : ∃ RR, lovedF (y 0) f n.toNat 100 = RR := ⟨_, rfl⟩
  refine CtI.of (by decide) (Nat.le_of_ble_eq_true rfl) ?_
  intro p e s m args below meth c A E hr
  refine jx_lv (lv' := [(0, .ref (b 0)), (1, vI f), (2, vI n)]) [0, 1, 2] rfl ?_
  refine jx_aload_n E 0 dX6_loved_0 rfl ?_
  refine jx_iload_n E 1 dX6_loved_1 rfl ?_
  refine jx_callVi E [vI f] [] (c_X6_isFountain l G b y (f := f) (by unfold inR; omega) (by omega)) mb_X6_isFountain mv_X6_isFountain wl_X6_95 f_X6 wm_obj dX6_loved_2 ?_
  refine jx_if_eq (tgt := 19) E dX6_loved_5 (by decide) (fun c1 => ?_) (fun c1 => ?_)
  · skip
    refine jx_aload_n E 0 dX6_loved_19 rfl ?_
    refine jx_ldc E wc_X6_35 dX6_loved_20 ?_
    refine jx_callVi E [vI (-1000000001)] [] (c_X6_finds l G b y (f := (-1000000001)) (by omega)) mb_X6_finds mv_X6_finds wl_X6_37 f_X6 wm_obj dX6_loved_22 ?_
    exact jx_iret E hr dX6_loved_25 (by have hV : ¬ (vFou (y 0) f ∧ v100 n) := (by omega); simp only [lovedR, if_neg hV]) (by have hV : ¬ (vFou (y 0) f ∧ v100 n) := (by omega); simp only [lovedR, if_neg hV]; rw [endM_f (by decide)])
  · skip
    refine jx_iload_n E 2 dX6_loved_8 rfl ?_
    refine jx_i2l E dX6_loved_9 ?_
    refine jx_iconst E dX6_loved_10 ?_
    refine jx_bipush E dX6_loved_11 ?_
    refine jx_callSi E [vL n, vI 1, vI 100] [] (c_X6_in l G (wsM G b y) (v := n) (lo := 1) (hi := 100) (by unfold inL; omega) (by unfold inR; omega) (by unfold inR; omega)) mb_X6_in ms_X6_in wl_X6_41 dX6_loved_13 ?_
    refine jx_if_ne (tgt := 26) E dX6_loved_16 (by decide) (fun c2 => ?_) (fun c2 => ?_)
    · skip
      refine jx_aload_n E 0 dX6_loved_26 rfl ?_
      refine jx_callVv E [] [] (c_X6_thinks l G b y  ) mb_X6_thinks mv_X6_thinks wl_X6_134 f_X6 wm_obj dX6_loved_27 ?_
      refine jx_eq (ws' := wsM G b (setc (setc y 2 (y 0)) 0 (y 0))) (congrArg (wsM G b) (by first | rfl | (rw [setc_setc]; rfl) | (simp only [setc_setc, setc_at]; done) | (simp only [setc_setc, setc_at]; rfl) | (funext d; simp only [setc_app]; (repeat' split) <;> first | rfl | omega | simp_all))) ?_
      refine jx_iconst E dX6_loved_30 ?_
      refine jx_istore_n E dX6_loved_31 (by decide) [(3, vI (-1)), (0, .ref (b 0)), (1, vI f), (2, vI n)] rfl ?_
      refine jx_iconst E dX6_loved_32 ?_
      refine jx_istore E dX6_loved_33 (by decide) [(4, vI 0), (3, vI (-1)), (0, .ref (b 0)), (1, vI f), (2, vI n)] rfl ?_
      have LP35 : ∀ (n2 : Nat) (k : Nat) (bs : Int), (k ≤ 100) → (k < n2) → (-1 ≤ bs ∧ bs ≤ 99) → ((if bs < 0 then lovedF (y 0) f n.toNat k else bs) = RR) → (bs < 0 → bs = -1) → JX p l e (rmL 8) s m args below meth c 5 G A 0 0 (QI below args s G A (lovedR (y 0) f n) (wsM G b (endM (if vFou (y 0) f ∧ v100 n then thinkM y else y) (lovedR (y 0) f n)))) (wsM G b (setc (setc y 2 (y 0)) 0 (y 0))) 35 [(4, vI (100 - (k : Int))), (3, vI bs), (0, .ref (b 0)), (1, vI f), (2, vI n)] [] := by
        intro n2
        induction n2 with
        | zero => intro k bs q1 q2 q3 hQ q4; exfalso; omega
        | succ n2 ih =>
          intro k bs q1 q2 q3 hQ q4
          refine jx_iload E 0 dX6_loved_35 rfl ?_
          refine jx_bipush E dX6_loved_37 ?_
          refine jx_icmp_gt (tgt := 76) E dX6_loved_39 (by decide) (fun c3 => ?_) (fun c3 => ?_)
          · skip
            have hE : bs = RR := by
              rw [← hQ]
              split
              · first | (exfalso; omega) | (rw [show k = 0 by omega]; simp only [lovedF]; omega)
              · rfl
            refine jx_aload_n E 2 dX6_loved_76 rfl ?_
            refine jx_iload_n E 1 dX6_loved_77 rfl ?_
            refine jx_callVi E [vI bs] [] (c_X6_orNone l G b (setc (setc y 2 (y 0)) 0 (y 0)) (v := bs) (by unfold inR; omega)) mb_X6_orNone mv_X6_orNone wl_X6_109 f_X6 wm_obj dX6_loved_78 ?_
            refine jx_st (st' := [vI (noneR bs)]) (by first | rfl | (simp only [setc_at]; done) | (simp only [setc_at]; rfl)) ?_
            exact jx_iret E hr dX6_loved_81 (by have hV : vFou (y 0) f ∧ v100 n := (by omega); simp only [lovedR, if_pos hV]; rw [hRR, hE]) (by have hV : vFou (y 0) f ∧ v100 n := (by omega); simp only [lovedR, if_pos hV]; rw [hRR, hE]; rfl)
          · skip
            refine jx_iload_n E 1 dX6_loved_42 rfl ?_
            refine jx_if_ge (tgt := 76) E dX6_loved_43 (by decide) (fun c4 => ?_) (fun c4 => ?_)
            · skip
              have hE : bs = RR := by
                rw [← hQ]
                split
                · first | (exfalso; omega) | (rw [show k = 0 by omega]; simp only [lovedF]; omega)
                · rfl
              refine jx_aload_n E 2 dX6_loved_76 rfl ?_
              refine jx_iload_n E 1 dX6_loved_77 rfl ?_
              refine jx_callVi E [vI bs] [] (c_X6_orNone l G b (setc (setc y 2 (y 0)) 0 (y 0)) (v := bs) (by unfold inR; omega)) mb_X6_orNone mv_X6_orNone wl_X6_109 f_X6 wm_obj dX6_loved_78 ?_
              refine jx_st (st' := [vI (noneR bs)]) (by first | rfl | (simp only [setc_at]; done) | (simp only [setc_at]; rfl)) ?_
              exact jx_iret E hr dX6_loved_81 (by have hV : vFou (y 0) f ∧ v100 n := (by omega); simp only [lovedR, if_pos hV]; rw [hRR, hE]) (by have hV : vFou (y 0) f ∧ v100 n := (by omega); simp only [lovedR, if_pos hV]; rw [hRR, hE]; rfl)
            · skip
              have hz := VT_fou h1 (i := f) (f := 3) (v := (100 - (k : Int))) (by omega) (by omega) (by omega)
              have hsi : staysI (updI (y 0) (21 + 5 * f + 3) (100 - (k : Int))) f n.toNat = 0 ∨ staysI (updI (y 0) (21 + 5 * f + 3) (100 - (k : Int))) f n.toNat = 1 := by unfold staysI; omega
              have hk1 : (100 - (k : Int)) = 99 - ((k - 1 : Nat) : Int) := by omega
              refine jx_aload_n E 2 dX6_loved_46 rfl ?_
              refine jx_iload_n E 3 dX6_loved_47 rfl ?_
              refine jx_iconst E dX6_loved_48 ?_
              refine jx_iload E 0 dX6_loved_49 rfl ?_
              refine jx_callVv E [vI f, vI 3, vI (100 - (k : Int))] [] (c_X6_put l G b (setc (setc y 2 (y 0)) 0 (y 0)) (f := f) (what := 3) (v := 100 - (k : Int)) (by omega) (by omega) (by omega) (by omega)) mb_X6_put mv_X6_put wl_X6_86 f_X6 wm_obj dX6_loved_51 ?_
              refine jx_eq (ws' := wsM G b (setc (setc y 2 (y 0)) 0 (updI (y 0) (21 + 5 * f + 3) (100 - (k : Int))))) (congrArg (wsM G b) (by first | rfl | (rw [setc_setc]; rfl) | (simp only [setc_setc, setc_at]; done) | (simp only [setc_setc, setc_at]; rfl) | (funext d; simp only [setc_app]; (repeat' split) <;> first | rfl | omega | simp_all))) ?_
              refine jx_aload_n E 2 dX6_loved_54 rfl ?_
              refine jx_iload_n E 3 dX6_loved_55 rfl ?_
              refine jx_iload_n E 4 dX6_loved_56 rfl ?_
              refine jx_callVi E [vI f, vI n] [] (c_X6_staysUp l G b (setc (setc y 2 (y 0)) 0 (updI (y 0) (21 + 5 * f + 3) (100 - (k : Int)))) (f := f) (n := n) (VT_up hz (by omega)) (show 0 ≤ f ∧ f < updI (y 0) (21 + 5 * f + 3) (100 - (k : Int)) 4 by rw [updI_ne _ _ (by omega)]; omega) (by omega)) mb_X6_staysUp mv_X6_staysUp wl_X6_146 f_X6 wm_obj dX6_loved_57 ?_
              refine jx_eq (ws' := wsM G b (setc (setc y 2 (y 0)) 0 (y 0))) (congrArg (wsM G b) (by first | rfl | (rw [setc_setc]; rfl) | (simp only [setc_setc, setc_at]; done) | (simp only [setc_setc, setc_at]; rfl) | (funext d; simp only [setc_app]; (repeat' split) <;> first | rfl | omega | simp_all))) ?_
              refine jx_st (st' := [vI (staysI (updI (y 0) (21 + 5 * f + 3) (100 - (k : Int))) f n.toNat)]) (by first | rfl | (simp only [setc_at]; done) | (simp only [setc_at]; rfl)) ?_
              refine jx_if_eq (tgt := 68) E dX6_loved_60 (by decide) (fun c5 => ?_) (fun c5 => ?_)
              · skip
                refine jx_iconst E dX6_loved_68 ?_
                refine jx_istore_n E dX6_loved_69 (by decide) [(3, vI (-1)), (4, vI (100 - (k : Int))), (0, .ref (b 0)), (1, vI f), (2, vI n)] rfl ?_
                refine jx_iinc E 1 dX6_loved_70 rfl (by decide) [(4, vI (100 - (k : Int) + 1)), (3, vI (-1)), (0, .ref (b 0)), (1, vI f), (2, vI n)] rfl ?_
                refine jx_goto (tgt := 35) E dX6_loved_73 (by decide) ?_
                obtain ⟨k', rfl⟩ : ∃ k', k = k' + 1 := ⟨k - 1, by omega⟩
                refine jx_lve (congrArg (fun z => [(4, vI z), (3, vI (-1)), (0, Value.ref (b 0)), (1, vI f), (2, vI n)]) (show 100 - ((k' + 1 : Nat) : Int) + 1 = 100 - (k' : Int) by omega)) ?_
                rw [if_pos (by omega), lovedF, show 99 - (k' : Int) = 100 - ((k' + 1 : Nat) : Int) by omega] at hQ
                exact ih k' _ (by omega) (by omega) (by omega) (by rw [← hQ]; (repeat' split) <;> first | (exfalso; omega) | rfl) (by omega)
              · skip
                refine jx_iload E 0 dX6_loved_63 rfl ?_
                refine jx_goto (tgt := 69) E dX6_loved_65 (by decide) ?_
                refine jx_istore_n E dX6_loved_69 (by decide) [(3, vI (100 - (k : Int))), (4, vI (100 - (k : Int))), (0, .ref (b 0)), (1, vI f), (2, vI n)] rfl ?_
                refine jx_iinc E 1 dX6_loved_70 rfl (by decide) [(4, vI (100 - (k : Int) + 1)), (3, vI (100 - (k : Int))), (0, .ref (b 0)), (1, vI f), (2, vI n)] rfl ?_
                refine jx_goto (tgt := 35) E dX6_loved_73 (by decide) ?_
                obtain ⟨k', rfl⟩ : ∃ k', k = k' + 1 := ⟨k - 1, by omega⟩
                refine jx_lve (congrArg (fun z => [(4, vI z), (3, vI (100 - ((k' + 1 : Nat) : Int))), (0, Value.ref (b 0)), (1, vI f), (2, vI n)]) (show 100 - ((k' + 1 : Nat) : Int) + 1 = 100 - (k' : Int) by omega)) ?_
                rw [if_pos (by omega), lovedF, show 99 - (k' : Int) = 100 - ((k' + 1 : Nat) : Int) by omega] at hQ
                exact ih k' _ (by omega) (by omega) (by omega) (by rw [← hQ]; (repeat' split) <;> first | (exfalso; omega) | rfl) (by omega)
      exact LP35 101 100 _ (by omega) (by omega) (by omega) (by rw [if_pos (by decide)]; exact hRR) (by omega)
    · skip
      refine jx_aload_n E 0 dX6_loved_19 rfl ?_
      refine jx_ldc E wc_X6_35 dX6_loved_20 ?_
      refine jx_callVi E [vI (-1000000001)] [] (c_X6_finds l G b y (f := (-1000000001)) (by omega)) mb_X6_finds mv_X6_finds wl_X6_37 f_X6 wm_obj dX6_loved_22 ?_
      exact jx_iret E hr dX6_loved_25 (by have hV : ¬ (vFou (y 0) f ∧ v100 n) := (by omega); simp only [lovedR, if_neg hV]) (by have hV : ¬ (vFou (y 0) f ∧ v100 n) := (by omega); simp only [lovedR, if_neg hV]; rw [endM_f (by decide)])
set_option maxHeartbeats 4000000 in
theorem c_X6_enough (l : Launch) (G : GT) (b : Nat → Nat) (y : MS) {n : Int} (h1 : VT 99999 (y 0)) (h2 : inR n) : CtI l G yX6_enough cX6_enough 5 (some .int) 8 [.ref (b 0), vI n] (wsM G b y) (enoughR (y 0) n) (wsM G b (endM (if 1 ≤ n ∧ n ≤ 60 then thinkM y else y) (enoughR (y 0) n))) := by
  obtain ⟨v0, v1, v2, v3, v4, v5, v6, v7⟩ := id h1
  unfold inR at h2
  have hs0 := stooped_in h1
  obtain ⟨RR, hRR⟩ : ∃ RR, enF (y 0) n.toNat 1000 = RR := ⟨_, rfl⟩
  refine CtI.of (by decide) (Nat.le_of_ble_eq_true rfl) ?_
  intro p e s m args below meth c A E hr
  refine jx_lv (lv' := [(0, .ref (b 0)), (1, vI n)]) [0, 1] rfl ?_
  refine jx_iload_n E 1 dX6_enough_0 rfl ?_
  refine jx_i2l E dX6_enough_1 ?_
  refine jx_iconst E dX6_enough_2 ?_
  refine jx_bipush E dX6_enough_3 ?_
  refine jx_callSi E [vL n, vI 1, vI 60] [] (c_X6_in l G (wsM G b y) (v := n) (lo := 1) (hi := 60) (by unfold inL; omega) (by unfold inR; omega) (by unfold inR; omega)) mb_X6_in ms_X6_in wl_X6_41 dX6_enough_5 ?_
  refine jx_if_ne (tgt := 18) E dX6_enough_8 (by decide) (fun c1 => ?_) (fun c1 => ?_)
  · skip
    refine jx_aload_n E 0 dX6_enough_18 rfl ?_
    refine jx_callVv E [] [] (c_X6_thinks l G b y  ) mb_X6_thinks mv_X6_thinks wl_X6_134 f_X6 wm_obj dX6_enough_19 ?_
    refine jx_eq (ws' := wsM G b (setc (setc y 2 (y 0)) 0 (y 0))) (congrArg (wsM G b) (by first | rfl | (rw [setc_setc]; rfl) | (simp only [setc_setc, setc_at]; done) | (simp only [setc_setc, setc_at]; rfl) | (funext d; simp only [setc_app]; (repeat' split) <;> first | rfl | omega | simp_all))) ?_
    refine jx_aload_n E 0 dX6_enough_22 rfl ?_
    refine jx_callVi E [] [] (c_X6_allStooped l G b (setc (setc y 2 (y 0)) 0 (y 0))  (VT_up h1 (by omega))) mb_X6_allStooped mv_X6_allStooped wl_X6_143 f_X6 wm_obj dX6_enough_23 ?_
    refine jx_st (st' := [vI (stoopedP (y 0))]) (by first | rfl | (simp only [setc_at]; done) | (simp only [setc_at]; rfl)) ?_
    refine jx_istore_n E dX6_enough_26 (by decide) [(2, vI (stoopedP (y 0))), (0, .ref (b 0)), (1, vI n)] rfl ?_
    refine jx_iconst E dX6_enough_27 ?_
    refine jx_istore_n E dX6_enough_28 (by decide) [(3, vI (-1)), (2, vI (stoopedP (y 0))), (0, .ref (b 0)), (1, vI n)] rfl ?_
    refine jx_iconst E dX6_enough_29 ?_
    refine jx_istore E dX6_enough_30 (by decide) [(4, vI 0), (3, vI (-1)), (2, vI (stoopedP (y 0))), (0, .ref (b 0)), (1, vI n)] rfl ?_
    have LP32 : ∀ (n2 : Nat) (k : Nat) (bs : Int), (k ≤ 1000) → (k < n2) → (-1 ≤ bs ∧ bs ≤ 9990) → ((if bs < 0 then enF (y 0) n.toNat k else bs) = RR) → (bs < 0 → bs = -1) → JX p l e (rmL 8) s m args below meth c 5 G A 0 0 (QI below args s G A (enoughR (y 0) n) (wsM G b (endM (if 1 ≤ n ∧ n ≤ 60 then thinkM y else y) (enoughR (y 0) n)))) (wsM G b (setc (setc y 2 (y 0)) 0 (y 0))) 32 [(4, vI (10000 - 10 * (k : Int))), (3, vI bs), (2, vI (stoopedP (y 0))), (0, .ref (b 0)), (1, vI n)] [] := by
      intro n2
      induction n2 with
      | zero => intro k bs q1 q2 q3 hQ q4; exfalso; omega
      | succ n2 ih =>
        intro k bs q1 q2 q3 hQ q4
        refine jx_iload E 0 dX6_enough_32 rfl ?_
        refine jx_sipush E dX6_enough_34 ?_
        refine jx_icmp_ge (tgt := 74) E dX6_enough_37 (by decide) (fun c2 => ?_) (fun c2 => ?_)
        · skip
          have hE : bs = RR := by
            rw [← hQ]
            split
            · first | (exfalso; omega) | (rw [show k = 0 by omega]; simp only [enF]; omega)
            · rfl
          refine jx_aload_n E 3 dX6_enough_74 rfl ?_
          refine jx_iload_n E 1 dX6_enough_75 rfl ?_
          refine jx_callVi E [vI bs] [] (c_X6_orNone l G b (setc (setc y 2 (y 0)) 0 (y 0)) (v := bs) (by unfold inR; omega)) mb_X6_orNone mv_X6_orNone wl_X6_109 f_X6 wm_obj dX6_enough_76 ?_
          refine jx_st (st' := [vI (noneR bs)]) (by first | rfl | (simp only [setc_at]; done) | (simp only [setc_at]; rfl)) ?_
          exact jx_iret E hr dX6_enough_79 (by have hV : 1 ≤ n ∧ n ≤ 60 := (by omega); simp only [enoughR, if_pos hV]; rw [hRR, hE]) (by have hV : 1 ≤ n ∧ n ≤ 60 := (by omega); simp only [enoughR, if_pos hV]; rw [hRR, hE]; rfl)
        · skip
          refine jx_iload_n E 1 dX6_enough_40 rfl ?_
          refine jx_if_ge (tgt := 74) E dX6_enough_41 (by decide) (fun c3 => ?_) (fun c3 => ?_)
          · skip
            have hE : bs = RR := by
              rw [← hQ]
              split
              · first | (exfalso; omega) | (rw [show k = 0 by omega]; simp only [enF]; omega)
              · rfl
            refine jx_aload_n E 3 dX6_enough_74 rfl ?_
            refine jx_iload_n E 1 dX6_enough_75 rfl ?_
            refine jx_callVi E [vI bs] [] (c_X6_orNone l G b (setc (setc y 2 (y 0)) 0 (y 0)) (v := bs) (by unfold inR; omega)) mb_X6_orNone mv_X6_orNone wl_X6_109 f_X6 wm_obj dX6_enough_76 ?_
            refine jx_st (st' := [vI (noneR bs)]) (by first | rfl | (simp only [setc_at]; done) | (simp only [setc_at]; rfl)) ?_
            exact jx_iret E hr dX6_enough_79 (by have hV : 1 ≤ n ∧ n ≤ 60 := (by omega); simp only [enoughR, if_pos hV]; rw [hRR, hE]) (by have hV : 1 ≤ n ∧ n ≤ 60 := (by omega); simp only [enoughR, if_pos hV]; rw [hRR, hE]; rfl)
          · skip
            have hz := VT_tank h1 (v := 10000 - 10 * (k : Int)) (by omega)
            have hzs := stooped_in (VT_days hz n.toNat)
            refine jx_aload_n E 3 dX6_enough_44 rfl ?_
            refine jx_get E f_X6 0 (v := .ref (b 1)) wm_obj (by decide) wf_X6_9 rfl dX6_enough_45 ?_
            refine jx_iconst E dX6_enough_48 ?_
            refine jx_iload E 0 dX6_enough_49 rfl ?_
            refine jx_iast E wm_m (wq_m (by omega) (by omega)) (by omega) (by omega) (by decide) dX6_enough_51 ?_
            refine jx_eq (ws' := wsM G b (setc (setc y 2 (y 0)) 0 (updI (y 0) 1 (10000 - 10 * (k : Int))))) (congrArg (wsM G b) (by first | rfl | (rw [setc_setc]; rfl) | (simp only [setc_setc, setc_at]; done) | (simp only [setc_setc, setc_at]; rfl) | (funext d; simp only [setc_app]; (repeat' split) <;> first | rfl | omega | simp_all))) ?_
            refine jx_aload_n E 3 dX6_enough_52 rfl ?_
            refine jx_iload_n E 4 dX6_enough_53 rfl ?_
            refine jx_callVi E [vI n] [] (c_X6_stoopedOn l G b (setc (setc y 2 (y 0)) 0 (updI (y 0) 1 (10000 - 10 * (k : Int)))) (n := n) (VT_up hz (by omega)) (by omega)) mb_X6_stoopedOn mv_X6_stoopedOn wl_X6_150 f_X6 wm_obj dX6_enough_54 ?_
            refine jx_eq (ws' := wsM G b (setc (setc y 2 (y 0)) 0 (y 0))) (congrArg (wsM G b) (by first | rfl | (rw [setc_setc]; rfl) | (simp only [setc_setc, setc_at]; done) | (simp only [setc_setc, setc_at]; rfl) | (funext d; simp only [setc_app]; (repeat' split) <;> first | rfl | omega | simp_all))) ?_
            refine jx_st (st' := [vI (stoopedP (daysP n.toNat (updI (y 0) 1 (10000 - 10 * (k : Int)))))]) (by first | rfl | (simp only [setc_at]; done) | (simp only [setc_at]; rfl)) ?_
            refine jx_iload_n E 2 dX6_enough_57 rfl ?_
            refine jx_icmp_ne (tgt := 66) E dX6_enough_58 (by decide) (fun c4 => ?_) (fun c4 => ?_)
            · skip
              refine jx_iconst E dX6_enough_66 ?_
              refine jx_istore_n E dX6_enough_67 (by decide) [(3, vI (-1)), (4, vI (10000 - 10 * (k : Int))), (2, vI (stoopedP (y 0))), (0, .ref (b 0)), (1, vI n)] rfl ?_
              refine jx_iinc E 1 dX6_enough_68 rfl (by decide) [(4, vI (10000 - 10 * (k : Int) + 10)), (3, vI (-1)), (2, vI (stoopedP (y 0))), (0, .ref (b 0)), (1, vI n)] rfl ?_
              refine jx_goto (tgt := 32) E dX6_enough_71 (by decide) ?_
              obtain ⟨k', rfl⟩ : ∃ k', k = k' + 1 := ⟨k - 1, by omega⟩
              refine jx_lve (congrArg (fun z => [(4, vI z), (3, vI (-1)), (2, vI (stoopedP (y 0))), (0, Value.ref (b 0)), (1, vI n)]) (show 10000 - 10 * ((k' + 1 : Nat) : Int) + 10 = 10000 - 10 * (k' : Int) by omega)) ?_
              rw [if_pos (by omega), enF, show 9990 - 10 * (k' : Int) = 10000 - 10 * ((k' + 1 : Nat) : Int) by omega] at hQ
              exact ih k' _ (by omega) (by omega) (by omega) (by rw [← hQ]; (repeat' split) <;> first | (exfalso; omega) | rfl) (by omega)
            · skip
              refine jx_iload E 0 dX6_enough_61 rfl ?_
              refine jx_goto (tgt := 67) E dX6_enough_63 (by decide) ?_
              refine jx_istore_n E dX6_enough_67 (by decide) [(3, vI (10000 - 10 * (k : Int))), (4, vI (10000 - 10 * (k : Int))), (2, vI (stoopedP (y 0))), (0, .ref (b 0)), (1, vI n)] rfl ?_
              refine jx_iinc E 1 dX6_enough_68 rfl (by decide) [(4, vI (10000 - 10 * (k : Int) + 10)), (3, vI (10000 - 10 * (k : Int))), (2, vI (stoopedP (y 0))), (0, .ref (b 0)), (1, vI n)] rfl ?_
              refine jx_goto (tgt := 32) E dX6_enough_71 (by decide) ?_
              obtain ⟨k', rfl⟩ : ∃ k', k = k' + 1 := ⟨k - 1, by omega⟩
              refine jx_lve (congrArg (fun z => [(4, vI z), (3, vI (10000 - 10 * ((k' + 1 : Nat) : Int))), (2, vI (stoopedP (y 0))), (0, Value.ref (b 0)), (1, vI n)]) (show 10000 - 10 * ((k' + 1 : Nat) : Int) + 10 = 10000 - 10 * (k' : Int) by omega)) ?_
              rw [if_pos (by omega), enF, show 9990 - 10 * (k' : Int) = 10000 - 10 * ((k' + 1 : Nat) : Int) by omega] at hQ
              exact ih k' _ (by omega) (by omega) (by omega) (by rw [← hQ]; (repeat' split) <;> first | (exfalso; omega) | rfl) (by omega)
    exact LP32 1001 1000 _ (by omega) (by omega) (by omega) (by rw [if_pos (by decide)]; exact hRR) (by omega)
  · skip
    refine jx_aload_n E 0 dX6_enough_11 rfl ?_
    refine jx_ldc E wc_X6_35 dX6_enough_12 ?_
    refine jx_callVi E [vI (-1000000001)] [] (c_X6_finds l G b y (f := (-1000000001)) (by omega)) mb_X6_finds mv_X6_finds wl_X6_37 f_X6 wm_obj dX6_enough_14 ?_
    exact jx_iret E hr dX6_enough_17 (by have hV : ¬ (1 ≤ n ∧ n ≤ 60) := (by omega); simp only [enoughR, if_neg hV]) (by have hV : ¬ (1 ≤ n ∧ n ≤ 60) := (by omega); simp only [enoughR, if_neg hV]; rw [endM_f (by decide)])
set_option maxHeartbeats 4000000 in
theorem c_X6_kind (l : Launch) (G : GT) (b : Nat → Nat) (y : MS) {f : Int} (h1 : VT 99999 (y 0)) (h2 : inR f) : CtI l G yX6_kind cX6_kind 6 (some .int) 7 [.ref (b 0), vI f] (wsM G b y) (kindR (y 0) f) (wsM G b (endM (if vFou (y 0) f then thinkM y else y) (kindR (y 0) f))) := by
  obtain ⟨v0, v1, v2, v3, v4, v5, v6, v7⟩ := id h1
  unfold inR at h2
  refine CtI.of (by decide) (Nat.le_of_ble_eq_true rfl) ?_
  intro p e s m args below meth c A E hr
  refine jx_lv (lv' := [(0, .ref (b 0)), (1, vI f)]) [0, 1] rfl ?_
  refine jx_aload_n E 0 dX6_kind_0 rfl ?_
  refine jx_iload_n E 1 dX6_kind_1 rfl ?_
  refine jx_callVi E [vI f] [] (c_X6_isFountain l G b y (f := f) (by unfold inR; omega) (by omega)) mb_X6_isFountain mv_X6_isFountain wl_X6_95 f_X6 wm_obj dX6_kind_2 ?_
  refine jx_if_ne (tgt := 15) E dX6_kind_5 (by decide) (fun c1 => ?_) (fun c1 => ?_)
  · skip
    refine jx_aload_n E 0 dX6_kind_15 rfl ?_
    refine jx_callVv E [] [] (c_X6_thinks l G b y  ) mb_X6_thinks mv_X6_thinks wl_X6_134 f_X6 wm_obj dX6_kind_16 ?_
    refine jx_eq (ws' := wsM G b (setc (setc y 2 (y 0)) 0 (y 0))) (congrArg (wsM G b) (by first | rfl | (rw [setc_setc]; rfl) | (simp only [setc_setc, setc_at]; done) | (simp only [setc_setc, setc_at]; rfl) | (funext d; simp only [setc_app]; (repeat' split) <;> first | rfl | omega | simp_all))) ?_
    refine jx_iconst E dX6_kind_19 ?_
    refine jx_istore_n E dX6_kind_20 (by decide) [(2, vI 0), (0, .ref (b 0)), (1, vI f)] rfl ?_
    refine jx_iconst E dX6_kind_21 ?_
    refine jx_istore_n E dX6_kind_22 (by decide) [(3, vI (-1)), (2, vI 0), (0, .ref (b 0)), (1, vI f)] rfl ?_
    refine jx_iconst E dX6_kind_23 ?_
    refine jx_istore E dX6_kind_24 (by decide) [(4, vI 0), (3, vI (-1)), (2, vI 0), (0, .ref (b 0)), (1, vI f)] rfl ?_
    have LP26 : ∀ (n2 : Nat) (k : Nat) (bs : Int) (ms : Int), (k ≤ 6) → (6 - k < n2) → (bs = (kdF (y 0) f k).1) → (ms = (kdF (y 0) f k).2) → (0 ≤ bs ∧ bs ≤ 5 ∧ -1 ≤ ms ∧ ms ≤ 401) → JX p l e (rmL 7) s m args below meth c 6 G A 0 0 (QI below args s G A (kindR (y 0) f) (wsM G b (endM (if vFou (y 0) f then thinkM y else y) (kindR (y 0) f)))) (wsM G b (setc (setc y 2 (y 0)) 0 (y 0))) 26 [(4, vI (k : Int)), (3, vI ms), (2, vI bs), (0, .ref (b 0)), (1, vI f)] [] := by
      intro n2
      induction n2 with
      | zero => intro k bs ms q1 q2 hb hm hr2; exfalso; omega
      | succ n2 ih =>
        intro k bs ms q1 q2 hb hm hr2
        refine jx_iload E 0 dX6_kind_26 rfl ?_
        refine jx_iconst E dX6_kind_28 ?_
        refine jx_icmp_gt (tgt := 79) E dX6_kind_29 (by decide) (fun c2 => ?_) (fun c2 => ?_)
        · skip
          refine jx_iload_n E 2 dX6_kind_79 rfl ?_
          exact jx_iret E hr dX6_kind_80 (by have hV : vFou (y 0) f := (by omega); simp only [kindR, if_pos hV]; rw [hb, show k = 6 by omega]) (by have hV : vFou (y 0) f := (by omega); have e : (kindR (y 0) f) = bs := (by simp only [kindR, if_pos hV]; rw [hb, show k = 6 by omega]); rw [e, if_pos hV, endM_n (by omega)]; rfl)
        · skip
          have hz := VT_fou h1 (i := f) (f := 0) (v := (k : Int)) (by omega) (by omega) (by omega)
          rw [Int.add_zero] at hz
          have hof := off_in f 401 (updI (y 0) (21 + 5 * f) (k : Int)) (by omega)
          refine jx_aload_n E 3 dX6_kind_32 rfl ?_
          refine jx_iload_n E 4 dX6_kind_33 rfl ?_
          refine jx_iconst E dX6_kind_34 ?_
          refine jx_iload E 0 dX6_kind_35 rfl ?_
          refine jx_callVv E [vI f, vI 0, vI (k : Int)] [] (c_X6_put l G b (setc (setc y 2 (y 0)) 0 (y 0)) (f := f) (what := 0) (v := (k : Int)) (by omega) (by omega) (by omega) (by omega)) mb_X6_put mv_X6_put wl_X6_86 f_X6 wm_obj dX6_kind_37 ?_
          refine jx_eq (ws' := wsM G b (setc (setc y 2 (y 0)) 0 (updI (y 0) (21 + 5 * f) (k : Int)))) (congrArg (wsM G b) (by simp only [Int.add_zero]; first | done | rfl | (rw [setc_setc]; rfl) | (simp only [setc_setc, setc_at]; done))) ?_
          refine jx_aload_n E 3 dX6_kind_40 rfl ?_
          refine jx_iload_n E 4 dX6_kind_41 rfl ?_
          refine jx_callVi E [vI f] [] (c_X6_offIn l G b (setc (setc y 2 (y 0)) 0 (updI (y 0) (21 + 5 * f) (k : Int))) (f := f) (VT_up hz (by omega)) (show 0 ≤ f ∧ f < updI (y 0) (21 + 5 * f) (k : Int) 4 by rw [updI_ne _ _ (by omega)]; omega)) mb_X6_offIn mv_X6_offIn wl_X6_140 f_X6 wm_obj dX6_kind_42 ?_
          refine jx_eq (ws' := wsM G b (setc (setc y 2 (y 0)) 0 (y 0))) (congrArg (wsM G b) (by first | rfl | (rw [setc_setc]; rfl) | (simp only [setc_setc, setc_at]; done) | (simp only [setc_setc, setc_at]; rfl) | (funext d; simp only [setc_app]; (repeat' split) <;> first | rfl | omega | simp_all))) ?_
          refine jx_st (st' := [vI (offF f 401 (updI (y 0) (21 + 5 * f) (k : Int)))]) (by first | rfl | (simp only [setc_at]; done) | (simp only [setc_at]; rfl)) ?_
          refine jx_istore E dX6_kind_45 (by decide) [(5, vI (offF f 401 (updI (y 0) (21 + 5 * f) (k : Int)))), (4, vI (k : Int)), (3, vI ms), (2, vI bs), (0, .ref (b 0)), (1, vI f)] rfl ?_
          refine jx_iload E 0 dX6_kind_47 rfl ?_
          refine jx_iload_n E 2 dX6_kind_49 rfl ?_
          refine jx_icmp_le (tgt := 58) E dX6_kind_50 (by decide) (fun c3 => ?_) (fun c3 => ?_)
          · skip
            refine jx_iload_n E 3 dX6_kind_58 rfl ?_
            refine jx_istore_n E dX6_kind_59 (by decide) [(2, vI bs), (5, vI (offF f 401 (updI (y 0) (21 + 5 * f) (k : Int)))), (4, vI (k : Int)), (3, vI ms), (0, .ref (b 0)), (1, vI f)] rfl ?_
            refine jx_iload E 1 dX6_kind_60 rfl ?_
            refine jx_iload_n E 3 dX6_kind_62 rfl ?_
            refine jx_icmp_le (tgt := 71) E dX6_kind_63 (by decide) (fun c4 => ?_) (fun c4 => ?_)
            · skip
              refine jx_iload_n E 3 dX6_kind_71 rfl ?_
              refine jx_istore_n E dX6_kind_72 (by decide) [(3, vI ms), (2, vI bs), (5, vI (offF f 401 (updI (y 0) (21 + 5 * f) (k : Int)))), (4, vI (k : Int)), (0, .ref (b 0)), (1, vI f)] rfl ?_
              refine jx_iinc E 3 dX6_kind_73 rfl (by decide) [(4, vI ((k : Int) + 1)), (3, vI ms), (2, vI bs), (5, vI (offF f 401 (updI (y 0) (21 + 5 * f) (k : Int)))), (0, .ref (b 0)), (1, vI f)] rfl ?_
              refine jx_goto (tgt := 26) E dX6_kind_76 (by decide) ?_
              refine jx_lv (lv' := [(4, vI ((k : Int) + 1)), (3, vI ms), (2, vI bs), (0, .ref (b 0)), (1, vI f)]) [0, 1, 2, 4, 5] rfl ?_
              exact ih (k + 1) _ _ (by omega) (by omega) (by rw [kdF_1]; omega) (by rw [kdF_2]; omega) (by omega)
            · skip
              refine jx_iload E 1 dX6_kind_66 rfl ?_
              refine jx_goto (tgt := 72) E dX6_kind_68 (by decide) ?_
              refine jx_istore_n E dX6_kind_72 (by decide) [(3, vI (offF f 401 (updI (y 0) (21 + 5 * f) (k : Int)))), (2, vI bs), (5, vI (offF f 401 (updI (y 0) (21 + 5 * f) (k : Int)))), (4, vI (k : Int)), (0, .ref (b 0)), (1, vI f)] rfl ?_
              refine jx_iinc E 3 dX6_kind_73 rfl (by decide) [(4, vI ((k : Int) + 1)), (3, vI (offF f 401 (updI (y 0) (21 + 5 * f) (k : Int)))), (2, vI bs), (5, vI (offF f 401 (updI (y 0) (21 + 5 * f) (k : Int)))), (0, .ref (b 0)), (1, vI f)] rfl ?_
              refine jx_goto (tgt := 26) E dX6_kind_76 (by decide) ?_
              refine jx_lv (lv' := [(4, vI ((k : Int) + 1)), (3, vI (offF f 401 (updI (y 0) (21 + 5 * f) (k : Int)))), (2, vI bs), (0, .ref (b 0)), (1, vI f)]) [0, 1, 2, 4, 5] rfl ?_
              exact ih (k + 1) _ _ (by omega) (by omega) (by rw [kdF_1]; omega) (by rw [kdF_2]; omega) (by omega)
          · skip
            refine jx_iload E 1 dX6_kind_53 rfl ?_
            refine jx_goto (tgt := 59) E dX6_kind_55 (by decide) ?_
            refine jx_istore_n E dX6_kind_59 (by decide) [(2, vI (k : Int)), (5, vI (offF f 401 (updI (y 0) (21 + 5 * f) (k : Int)))), (4, vI (k : Int)), (3, vI ms), (0, .ref (b 0)), (1, vI f)] rfl ?_
            refine jx_iload E 1 dX6_kind_60 rfl ?_
            refine jx_iload_n E 3 dX6_kind_62 rfl ?_
            refine jx_icmp_le (tgt := 71) E dX6_kind_63 (by decide) (fun c5 => ?_) (fun c5 => ?_)
            · skip
              refine jx_iload_n E 3 dX6_kind_71 rfl ?_
              refine jx_istore_n E dX6_kind_72 (by decide) [(3, vI ms), (2, vI (k : Int)), (5, vI (offF f 401 (updI (y 0) (21 + 5 * f) (k : Int)))), (4, vI (k : Int)), (0, .ref (b 0)), (1, vI f)] rfl ?_
              refine jx_iinc E 3 dX6_kind_73 rfl (by decide) [(4, vI ((k : Int) + 1)), (3, vI ms), (2, vI (k : Int)), (5, vI (offF f 401 (updI (y 0) (21 + 5 * f) (k : Int)))), (0, .ref (b 0)), (1, vI f)] rfl ?_
              refine jx_goto (tgt := 26) E dX6_kind_76 (by decide) ?_
              refine jx_lv (lv' := [(4, vI ((k : Int) + 1)), (3, vI ms), (2, vI (k : Int)), (0, .ref (b 0)), (1, vI f)]) [0, 1, 2, 4, 5] rfl ?_
              exact ih (k + 1) _ _ (by omega) (by omega) (by rw [kdF_1]; omega) (by rw [kdF_2]; omega) (by omega)
            · skip
              refine jx_iload E 1 dX6_kind_66 rfl ?_
              refine jx_goto (tgt := 72) E dX6_kind_68 (by decide) ?_
              refine jx_istore_n E dX6_kind_72 (by decide) [(3, vI (offF f 401 (updI (y 0) (21 + 5 * f) (k : Int)))), (2, vI (k : Int)), (5, vI (offF f 401 (updI (y 0) (21 + 5 * f) (k : Int)))), (4, vI (k : Int)), (0, .ref (b 0)), (1, vI f)] rfl ?_
              refine jx_iinc E 3 dX6_kind_73 rfl (by decide) [(4, vI ((k : Int) + 1)), (3, vI (offF f 401 (updI (y 0) (21 + 5 * f) (k : Int)))), (2, vI (k : Int)), (5, vI (offF f 401 (updI (y 0) (21 + 5 * f) (k : Int)))), (0, .ref (b 0)), (1, vI f)] rfl ?_
              refine jx_goto (tgt := 26) E dX6_kind_76 (by decide) ?_
              refine jx_lv (lv' := [(4, vI ((k : Int) + 1)), (3, vI (offF f 401 (updI (y 0) (21 + 5 * f) (k : Int)))), (2, vI (k : Int)), (0, .ref (b 0)), (1, vI f)]) [0, 1, 2, 4, 5] rfl ?_
              exact ih (k + 1) _ _ (by omega) (by omega) (by rw [kdF_1]; omega) (by rw [kdF_2]; omega) (by omega)
    exact LP26 7 0 _ _ (by omega) (by omega) rfl rfl (by omega)
  · skip
    refine jx_aload_n E 0 dX6_kind_8 rfl ?_
    refine jx_ldc E wc_X6_35 dX6_kind_9 ?_
    refine jx_callVi E [vI (-1000000001)] [] (c_X6_finds l G b y (f := (-1000000001)) (by omega)) mb_X6_finds mv_X6_finds wl_X6_37 f_X6 wm_obj dX6_kind_11 ?_
    exact jx_iret E hr dX6_kind_14 (by have hV : ¬ (vFou (y 0) f) := (by omega); simp only [kindR, if_neg hV]) (by have hV : ¬ (vFou (y 0) f) := (by omega); simp only [kindR, if_neg hV]; rw [endM_f (by decide)])
set_option maxHeartbeats 4000000 in
theorem c_X6_rain (l : Launch) (G : GT) (b : Nat → Nat) (y : MS) {n : Int} (h1 : VT 99999 (y 0)) (h2 : inR n) : CtI l G yX6_rain cX6_rain 6 (some .int) 7 [.ref (b 0), vI n] (wsM G b y) (rainR (y 0) n) (wsM G b (endM (if v100 n then thinkM y else y) (rainR (y 0) n))) := by
  obtain ⟨v0, v1, v2, v3, v4, v5, v6, v7⟩ := id h1
  unfold inR at h2
  refine CtI.of (by decide) (Nat.le_of_ble_eq_true rfl) ?_
  intro p e s m args below meth c A E hr
  refine jx_lv (lv' := [(0, .ref (b 0)), (1, vI n)]) [0, 1] rfl ?_
  refine jx_iload_n E 1 dX6_rain_0 rfl ?_
  refine jx_i2l E dX6_rain_1 ?_
  refine jx_iconst E dX6_rain_2 ?_
  refine jx_bipush E dX6_rain_3 ?_
  refine jx_callSi E [vL n, vI 1, vI 100] [] (c_X6_in l G (wsM G b y) (v := n) (lo := 1) (hi := 100) (by unfold inL; omega) (by unfold inR; omega) (by unfold inR; omega)) mb_X6_in ms_X6_in wl_X6_41 dX6_rain_5 ?_
  refine jx_if_ne (tgt := 18) E dX6_rain_8 (by decide) (fun c1 => ?_) (fun c1 => ?_)
  · skip
    refine jx_aload_n E 0 dX6_rain_18 rfl ?_
    refine jx_callVv E [] [] (c_X6_thinks l G b y  ) mb_X6_thinks mv_X6_thinks wl_X6_134 f_X6 wm_obj dX6_rain_19 ?_
    refine jx_eq (ws' := wsM G b (setc (setc y 2 (y 0)) 0 (y 0))) (congrArg (wsM G b) (by first | rfl | (rw [setc_setc]; rfl) | (simp only [setc_setc, setc_at]; done) | (simp only [setc_setc, setc_at]; rfl) | (funext d; simp only [setc_app]; (repeat' split) <;> first | rfl | omega | simp_all))) ?_
    refine jx_iconst E dX6_rain_22 ?_
    refine jx_istore_n E dX6_rain_23 (by decide) [(2, vI 0), (0, .ref (b 0)), (1, vI n)] rfl ?_
    refine jx_iconst E dX6_rain_24 ?_
    refine jx_istore_n E dX6_rain_25 (by decide) [(3, vI (-1)), (2, vI 0), (0, .ref (b 0)), (1, vI n)] rfl ?_
    refine jx_iconst E dX6_rain_26 ?_
    refine jx_istore E dX6_rain_27 (by decide) [(4, vI 0), (3, vI (-1)), (2, vI 0), (0, .ref (b 0)), (1, vI n)] rfl ?_
    have LP29 : ∀ (n2 : Nat) (k : Nat) (bs : Int) (ms : Int), (k ≤ 8) → (8 - k < n2) → (bs = (rnF (y 0) n.toNat k).1) → (ms = (rnF (y 0) n.toNat k).2) → (0 ≤ bs ∧ bs ≤ 7 ∧ -1 ≤ ms ∧ ms ≤ 400) → JX p l e (rmL 7) s m args below meth c 6 G A 0 0 (QI below args s G A (rainR (y 0) n) (wsM G b (endM (if v100 n then thinkM y else y) (rainR (y 0) n)))) (wsM G b (setc (setc y 2 (y 0)) 0 (y 0))) 29 [(4, vI (k : Int)), (3, vI ms), (2, vI bs), (0, .ref (b 0)), (1, vI n)] [] := by
      intro n2
      induction n2 with
      | zero => intro k bs ms q1 q2 hb hm hr2; exfalso; omega
      | succ n2 ih =>
        intro k bs ms q1 q2 hb hm hr2
        refine jx_iload E 0 dX6_rain_29 rfl ?_
        refine jx_bipush E dX6_rain_31 ?_
        refine jx_icmp_ge (tgt := 110) E dX6_rain_33 (by decide) (fun c2 => ?_) (fun c2 => ?_)
        · skip
          refine jx_iload_n E 2 dX6_rain_110 rfl ?_
          exact jx_iret E hr dX6_rain_111 (by have hV : v100 n := (by omega); simp only [rainR, if_pos hV]; rw [hb, show k = 8 by omega]) (by have hV : v100 n := (by omega); have e : (rainR (y 0) n) = bs := (by simp only [rainR, if_pos hV]; rw [hb, show k = 8 by omega]); rw [e, if_pos hV, endM_n (by omega)]; rfl)
        · skip
          have hr5 := v5 (k : Int) (by omega) (by omega)
          have hz := VT_rainw h1 (k := (k : Int)) (v := min 99 (y 0 (5 + (k : Int)) + 10)) (by omega) (by omega)
          have hz2 := VT_days hz n.toNat
          have hzn := noise_in hz2
          refine jx_aload_n E 3 dX6_rain_36 rfl ?_
          refine jx_get E f_X6 0 (v := .ref (b 1)) wm_obj (by decide) wf_X6_9 rfl dX6_rain_37 ?_
          refine jx_iconst E dX6_rain_40 ?_
          refine jx_iload E 0 dX6_rain_41 rfl ?_
          refine jx_iadd E dX6_rain_43 ?_
          refine jx_aload_n E 3 dX6_rain_44 rfl ?_
          refine jx_get E f_X6 0 (v := .ref (b 1)) wm_obj (by decide) wf_X6_9 rfl dX6_rain_45 ?_
          refine jx_iconst E dX6_rain_48 ?_
          refine jx_iload E 0 dX6_rain_49 rfl ?_
          refine jx_iadd E dX6_rain_51 ?_
          refine jx_iald E (v := (y 0) (5 + (k : Int))) wm_m (row0_at (by omega) (by omega)) (by omega) (by omega) (by decide) dX6_rain_52 ?_
          refine jx_bipush E dX6_rain_53 ?_
          refine jx_iadd E dX6_rain_55 ?_
          refine jx_iconst E dX6_rain_56 ?_
          refine jx_bipush E dX6_rain_57 ?_
          refine jx_callSi E [vI (((y 0) (5 + (k : Int))) + 10), vI 0, vI 99] [vI (5 + (k : Int)), .ref (b 1)] (c_X6_held l G (wsM G b (setc (setc y 2 (y 0)) 0 (y 0))) (v := ((y 0) (5 + (k : Int))) + 10) (lo := 0) (hi := 99) (by unfold inR; omega) (by unfold inR; omega) (by unfold inR; omega)) mb_X6_held ms_X6_held wl_X6_53 dX6_rain_59 ?_
          refine jx_st (st' := [vI (if ((y 0) (5 + (k : Int))) + 10 < 0 then 0 else if 99 < ((y 0) (5 + (k : Int))) + 10 then 99 else ((y 0) (5 + (k : Int))) + 10), vI (5 + (k : Int)), .ref (b 1)]) (by first | rfl | (simp only [setc_at]; done) | (simp only [setc_at]; rfl)) ?_
          refine jx_iast E wm_m (wq_m (by omega) (by omega)) (by omega) (by omega) (by decide) dX6_rain_62 ?_
          refine jx_eq (ws' := wsM G b (setc (setc y 2 (y 0)) 0 (updI (y 0) (5 + (k : Int)) (if ((y 0) (5 + (k : Int))) + 10 < 0 then 0 else if 99 < ((y 0) (5 + (k : Int))) + 10 then 99 else ((y 0) (5 + (k : Int))) + 10)))) (congrArg (wsM G b) (by first | rfl | (rw [setc_setc]; rfl) | (simp only [setc_setc, setc_at]; done) | (simp only [setc_setc, setc_at]; rfl) | (funext d; simp only [setc_app]; (repeat' split) <;> first | rfl | omega | simp_all))) ?_
          refine jx_eq (ws' := wsM G b (setc (setc y 2 (y 0)) 0 (updI (y 0) (5 + (k : Int)) (min 99 (y 0 (5 + (k : Int)) + 10))))) (congrArg (fun z => wsM G b (setc (setc y 2 (y 0)) 0 (updI (y 0) (5 + (k : Int)) z))) (by omega)) ?_
          refine jx_aload_n E 3 dX6_rain_63 rfl ?_
          refine jx_iload_n E 4 dX6_rain_64 rfl ?_
          refine jx_callVv E [vI n] [] (c_X6_goesFor l G b (setc (setc y 2 (y 0)) 0 (updI (y 0) (5 + (k : Int)) (min 99 (y 0 (5 + (k : Int)) + 10)))) (n := n) (VT_up hz (by omega)) (by omega)) mb_X6_goesFor mv_X6_goesFor wl_X6_127 f_X6 wm_obj dX6_rain_65 ?_
          refine jx_eq (ws' := wsM G b (setc (setc y 2 (y 0)) 0 (daysP n.toNat (updI (y 0) (5 + (k : Int)) (min 99 (y 0 (5 + (k : Int)) + 10)))))) (congrArg (wsM G b) (by first | rfl | (rw [setc_setc]; rfl) | (simp only [setc_setc, setc_at]; done) | (simp only [setc_setc, setc_at]; rfl) | (funext d; simp only [setc_app]; (repeat' split) <;> first | rfl | omega | simp_all))) ?_
          refine jx_aload_n E 3 dX6_rain_68 rfl ?_
          refine jx_callVi E [] [] (c_X6_noise l G b (setc (setc y 2 (y 0)) 0 (daysP n.toNat (updI (y 0) (5 + (k : Int)) (min 99 (y 0 (5 + (k : Int)) + 10)))))  (VT_up hz2 (by omega))) mb_X6_noise mv_X6_noise wl_X6_80 f_X6 wm_obj dX6_rain_69 ?_
          refine jx_st (st' := [vI (noiseP (daysP n.toNat (updI (y 0) (5 + (k : Int)) (min 99 (y 0 (5 + (k : Int)) + 10)))))]) (by first | rfl | (simp only [setc_at]; done) | (simp only [setc_at]; rfl)) ?_
          refine jx_istore E dX6_rain_72 (by decide) [(5, vI (noiseP (daysP n.toNat (updI (y 0) (5 + (k : Int)) (min 99 (y 0 (5 + (k : Int)) + 10)))))), (4, vI (k : Int)), (3, vI ms), (2, vI bs), (0, .ref (b 0)), (1, vI n)] rfl ?_
          refine jx_aload_n E 4 dX6_rain_74 rfl ?_
          refine jx_callVv E [] [] (c_X6_putsBack l G b (setc (setc y 2 (y 0)) 0 (daysP n.toNat (updI (y 0) (5 + (k : Int)) (min 99 (y 0 (5 + (k : Int)) + 10)))))  ) mb_X6_putsBack mv_X6_putsBack wl_X6_137 f_X6 wm_obj dX6_rain_75 ?_
          refine jx_eq (ws' := wsM G b (setc (setc y 2 (y 0)) 0 (y 0))) (congrArg (wsM G b) (by first | rfl | (rw [setc_setc]; rfl) | (simp only [setc_setc, setc_at]; done) | (simp only [setc_setc, setc_at]; rfl) | (funext d; simp only [setc_app]; (repeat' split) <;> first | rfl | omega | simp_all))) ?_
          refine jx_iload E 0 dX6_rain_78 rfl ?_
          refine jx_iload_n E 2 dX6_rain_80 rfl ?_
          refine jx_icmp_le (tgt := 89) E dX6_rain_81 (by decide) (fun c3 => ?_) (fun c3 => ?_)
          · skip
            refine jx_iload_n E 3 dX6_rain_89 rfl ?_
            refine jx_istore_n E dX6_rain_90 (by decide) [(2, vI bs), (5, vI (noiseP (daysP n.toNat (updI (y 0) (5 + (k : Int)) (min 99 (y 0 (5 + (k : Int)) + 10)))))), (4, vI (k : Int)), (3, vI ms), (0, .ref (b 0)), (1, vI n)] rfl ?_
            refine jx_iload E 1 dX6_rain_91 rfl ?_
            refine jx_iload_n E 3 dX6_rain_93 rfl ?_
            refine jx_icmp_le (tgt := 102) E dX6_rain_94 (by decide) (fun c4 => ?_) (fun c4 => ?_)
            · skip
              refine jx_iload_n E 3 dX6_rain_102 rfl ?_
              refine jx_istore_n E dX6_rain_103 (by decide) [(3, vI ms), (2, vI bs), (5, vI (noiseP (daysP n.toNat (updI (y 0) (5 + (k : Int)) (min 99 (y 0 (5 + (k : Int)) + 10)))))), (4, vI (k : Int)), (0, .ref (b 0)), (1, vI n)] rfl ?_
              refine jx_iinc E 3 dX6_rain_104 rfl (by decide) [(4, vI ((k : Int) + 1)), (3, vI ms), (2, vI bs), (5, vI (noiseP (daysP n.toNat (updI (y 0) (5 + (k : Int)) (min 99 (y 0 (5 + (k : Int)) + 10)))))), (0, .ref (b 0)), (1, vI n)] rfl ?_
              refine jx_goto (tgt := 29) E dX6_rain_107 (by decide) ?_
              refine jx_lv (lv' := [(4, vI ((k : Int) + 1)), (3, vI ms), (2, vI bs), (0, .ref (b 0)), (1, vI n)]) [0, 1, 2, 4, 5] rfl ?_
              exact ih (k + 1) _ _ (by omega) (by omega) (by rw [rnF_1]; omega) (by rw [rnF_2]; omega) (by omega)
            · skip
              refine jx_iload E 1 dX6_rain_97 rfl ?_
              refine jx_goto (tgt := 103) E dX6_rain_99 (by decide) ?_
              refine jx_istore_n E dX6_rain_103 (by decide) [(3, vI (noiseP (daysP n.toNat (updI (y 0) (5 + (k : Int)) (min 99 (y 0 (5 + (k : Int)) + 10)))))), (2, vI bs), (5, vI (noiseP (daysP n.toNat (updI (y 0) (5 + (k : Int)) (min 99 (y 0 (5 + (k : Int)) + 10)))))), (4, vI (k : Int)), (0, .ref (b 0)), (1, vI n)] rfl ?_
              refine jx_iinc E 3 dX6_rain_104 rfl (by decide) [(4, vI ((k : Int) + 1)), (3, vI (noiseP (daysP n.toNat (updI (y 0) (5 + (k : Int)) (min 99 (y 0 (5 + (k : Int)) + 10)))))), (2, vI bs), (5, vI (noiseP (daysP n.toNat (updI (y 0) (5 + (k : Int)) (min 99 (y 0 (5 + (k : Int)) + 10)))))), (0, .ref (b 0)), (1, vI n)] rfl ?_
              refine jx_goto (tgt := 29) E dX6_rain_107 (by decide) ?_
              refine jx_lv (lv' := [(4, vI ((k : Int) + 1)), (3, vI (noiseP (daysP n.toNat (updI (y 0) (5 + (k : Int)) (min 99 (y 0 (5 + (k : Int)) + 10)))))), (2, vI bs), (0, .ref (b 0)), (1, vI n)]) [0, 1, 2, 4, 5] rfl ?_
              exact ih (k + 1) _ _ (by omega) (by omega) (by rw [rnF_1]; omega) (by rw [rnF_2]; omega) (by omega)
          · skip
            refine jx_iload E 1 dX6_rain_84 rfl ?_
            refine jx_goto (tgt := 90) E dX6_rain_86 (by decide) ?_
            refine jx_istore_n E dX6_rain_90 (by decide) [(2, vI (k : Int)), (5, vI (noiseP (daysP n.toNat (updI (y 0) (5 + (k : Int)) (min 99 (y 0 (5 + (k : Int)) + 10)))))), (4, vI (k : Int)), (3, vI ms), (0, .ref (b 0)), (1, vI n)] rfl ?_
            refine jx_iload E 1 dX6_rain_91 rfl ?_
            refine jx_iload_n E 3 dX6_rain_93 rfl ?_
            refine jx_icmp_le (tgt := 102) E dX6_rain_94 (by decide) (fun c5 => ?_) (fun c5 => ?_)
            · skip
              refine jx_iload_n E 3 dX6_rain_102 rfl ?_
              refine jx_istore_n E dX6_rain_103 (by decide) [(3, vI ms), (2, vI (k : Int)), (5, vI (noiseP (daysP n.toNat (updI (y 0) (5 + (k : Int)) (min 99 (y 0 (5 + (k : Int)) + 10)))))), (4, vI (k : Int)), (0, .ref (b 0)), (1, vI n)] rfl ?_
              refine jx_iinc E 3 dX6_rain_104 rfl (by decide) [(4, vI ((k : Int) + 1)), (3, vI ms), (2, vI (k : Int)), (5, vI (noiseP (daysP n.toNat (updI (y 0) (5 + (k : Int)) (min 99 (y 0 (5 + (k : Int)) + 10)))))), (0, .ref (b 0)), (1, vI n)] rfl ?_
              refine jx_goto (tgt := 29) E dX6_rain_107 (by decide) ?_
              refine jx_lv (lv' := [(4, vI ((k : Int) + 1)), (3, vI ms), (2, vI (k : Int)), (0, .ref (b 0)), (1, vI n)]) [0, 1, 2, 4, 5] rfl ?_
              exact ih (k + 1) _ _ (by omega) (by omega) (by rw [rnF_1]; omega) (by rw [rnF_2]; omega) (by omega)
            · skip
              refine jx_iload E 1 dX6_rain_97 rfl ?_
              refine jx_goto (tgt := 103) E dX6_rain_99 (by decide) ?_
              refine jx_istore_n E dX6_rain_103 (by decide) [(3, vI (noiseP (daysP n.toNat (updI (y 0) (5 + (k : Int)) (min 99 (y 0 (5 + (k : Int)) + 10)))))), (2, vI (k : Int)), (5, vI (noiseP (daysP n.toNat (updI (y 0) (5 + (k : Int)) (min 99 (y 0 (5 + (k : Int)) + 10)))))), (4, vI (k : Int)), (0, .ref (b 0)), (1, vI n)] rfl ?_
              refine jx_iinc E 3 dX6_rain_104 rfl (by decide) [(4, vI ((k : Int) + 1)), (3, vI (noiseP (daysP n.toNat (updI (y 0) (5 + (k : Int)) (min 99 (y 0 (5 + (k : Int)) + 10)))))), (2, vI (k : Int)), (5, vI (noiseP (daysP n.toNat (updI (y 0) (5 + (k : Int)) (min 99 (y 0 (5 + (k : Int)) + 10)))))), (0, .ref (b 0)), (1, vI n)] rfl ?_
              refine jx_goto (tgt := 29) E dX6_rain_107 (by decide) ?_
              refine jx_lv (lv' := [(4, vI ((k : Int) + 1)), (3, vI (noiseP (daysP n.toNat (updI (y 0) (5 + (k : Int)) (min 99 (y 0 (5 + (k : Int)) + 10)))))), (2, vI (k : Int)), (0, .ref (b 0)), (1, vI n)]) [0, 1, 2, 4, 5] rfl ?_
              exact ih (k + 1) _ _ (by omega) (by omega) (by rw [rnF_1]; omega) (by rw [rnF_2]; omega) (by omega)
    exact LP29 9 0 _ _ (by omega) (by omega) rfl rfl (by omega)
  · skip
    refine jx_aload_n E 0 dX6_rain_11 rfl ?_
    refine jx_ldc E wc_X6_35 dX6_rain_12 ?_
    refine jx_callVi E [vI (-1000000001)] [] (c_X6_finds l G b y (f := (-1000000001)) (by omega)) mb_X6_finds mv_X6_finds wl_X6_37 f_X6 wm_obj dX6_rain_14 ?_
    exact jx_iret E hr dX6_rain_17 (by have hV : ¬ (v100 n) := (by omega); simp only [rainR, if_neg hV]) (by have hV : ¬ (v100 n) := (by omega); simp only [rainR, if_neg hV]; rw [endM_f (by decide)])
set_option maxHeartbeats 4000000 in
theorem c_X6_rule (l : Launch) (G : GT) (b : Nat → Nat) (y : MS) {n : Int} (h1 : VT 99999 (y 0)) (h2 : inR n) : CtI l G yX6_rule cX6_rule 7 (some .int) 8 [.ref (b 0), vI n] (wsM G b y) (ruleR (y 0) n) (wsM G b (endM (if v100 n then thinkM y else y) (ruleR (y 0) n))) := by
  obtain ⟨v0, v1, v2, v3, v4, v5, v6, v7⟩ := id h1
  unfold inR at h2
  refine CtI.of (by decide) (Nat.le_of_ble_eq_true rfl) ?_
  intro p e s m args below meth c A E hr
  refine jx_lv (lv' := [(0, .ref (b 0)), (1, vI n)]) [0, 1] rfl ?_
  refine jx_iload_n E 1 dX6_rule_0 rfl ?_
  refine jx_i2l E dX6_rule_1 ?_
  refine jx_iconst E dX6_rule_2 ?_
  refine jx_bipush E dX6_rule_3 ?_
  refine jx_callSi E [vL n, vI 1, vI 100] [] (c_X6_in l G (wsM G b y) (v := n) (lo := 1) (hi := 100) (by unfold inL; omega) (by unfold inR; omega) (by unfold inR; omega)) mb_X6_in ms_X6_in wl_X6_41 dX6_rule_5 ?_
  refine jx_if_ne (tgt := 18) E dX6_rule_8 (by decide) (fun c1 => ?_) (fun c1 => ?_)
  · skip
    refine jx_aload_n E 0 dX6_rule_18 rfl ?_
    refine jx_callVv E [] [] (c_X6_thinks l G b y  ) mb_X6_thinks mv_X6_thinks wl_X6_134 f_X6 wm_obj dX6_rule_19 ?_
    refine jx_eq (ws' := wsM G b (setc (setc y 2 (y 0)) 0 (y 0))) (congrArg (wsM G b) (by first | rfl | (rw [setc_setc]; rfl) | (simp only [setc_setc, setc_at]; done) | (simp only [setc_setc, setc_at]; rfl) | (funext d; simp only [setc_app]; (repeat' split) <;> first | rfl | omega | simp_all))) ?_
    refine jx_iconst E dX6_rule_22 ?_
    refine jx_istore_n E dX6_rule_23 (by decide) [(2, vI (-1)), (0, .ref (b 0)), (1, vI n)] rfl ?_
    refine jx_iconst E dX6_rule_24 ?_
    refine jx_istore_n E dX6_rule_25 (by decide) [(3, vI 0), (2, vI (-1)), (0, .ref (b 0)), (1, vI n)] rfl ?_
    refine jx_iconst E dX6_rule_26 ?_
    refine jx_istore E dX6_rule_27 (by decide) [(4, vI 0), (3, vI 0), (2, vI (-1)), (0, .ref (b 0)), (1, vI n)] rfl ?_
    have LP29 : ∀ (n2 : Nat) (k : Nat) (bs : Int) (ms : Int), (k ≤ 21) → (21 - k < n2) → (bs = (ruF (y 0) n.toNat k).1) → (ms = (ruF (y 0) n.toNat k).2) → (-1 ≤ bs ∧ bs ≤ 1000 ∧ 0 ≤ ms ∧ ms ≤ 80000) → JX p l e (rmL 8) s m args below meth c 7 G A 0 0 (QI below args s G A (ruleR (y 0) n) (wsM G b (endM (if v100 n then thinkM y else y) (ruleR (y 0) n)))) (wsM G b (setc (setc y 2 (y 0)) 0 (y 0))) 29 [(4, vI (50 * (k : Int))), (3, vI ms), (2, vI bs), (0, .ref (b 0)), (1, vI n)] [] := by
      intro n2
      induction n2 with
      | zero => intro k bs ms q1 q2 hb hm hr2; exfalso; omega
      | succ n2 ih =>
        intro k bs ms q1 q2 hb hm hr2
        refine jx_iload E 0 dX6_rule_29 rfl ?_
        refine jx_sipush E dX6_rule_31 ?_
        refine jx_icmp_gt (tgt := 99) E dX6_rule_34 (by decide) (fun c2 => ?_) (fun c2 => ?_)
        · skip
          refine jx_iload_n E 2 dX6_rule_99 rfl ?_
          exact jx_iret E hr dX6_rule_100 (by have hV : v100 n := (by omega); simp only [ruleR, if_pos hV]; rw [hb, show k = 21 by omega]) (by have hV : v100 n := (by omega); have e : (ruleR (y 0) n) = bs := (by simp only [ruleR, if_pos hV]; rw [hb, show k = 21 by omega]); rw [e, if_pos hV, endM_n (by omega)]; rfl)
        · skip
          have hz := VT_drought h1 (v := 50 * (k : Int)) (by omega)
          have hzs := stooped_in (VT_days hz n.toNat)
          refine jx_aload_n E 3 dX6_rule_37 rfl ?_
          refine jx_get E f_X6 0 (v := .ref (b 1)) wm_obj (by decide) wf_X6_9 rfl dX6_rule_38 ?_
          refine jx_iconst E dX6_rule_41 ?_
          refine jx_iload E 0 dX6_rule_42 rfl ?_
          refine jx_iast E wm_m (wq_m (by omega) (by omega)) (by omega) (by omega) (by decide) dX6_rule_44 ?_
          refine jx_eq (ws' := wsM G b (setc (setc y 2 (y 0)) 0 (updI (y 0) 2 (50 * (k : Int))))) (congrArg (wsM G b) (by first | rfl | (rw [setc_setc]; rfl) | (simp only [setc_setc, setc_at]; done) | (simp only [setc_setc, setc_at]; rfl) | (funext d; simp only [setc_app]; (repeat' split) <;> first | rfl | omega | simp_all))) ?_
          refine jx_aload_n E 3 dX6_rule_45 rfl ?_
          refine jx_iload_n E 4 dX6_rule_46 rfl ?_
          refine jx_callVi E [vI n] [] (c_X6_stoopedOn l G b (setc (setc y 2 (y 0)) 0 (updI (y 0) 2 (50 * (k : Int)))) (n := n) (VT_up hz (by omega)) (by omega)) mb_X6_stoopedOn mv_X6_stoopedOn wl_X6_150 f_X6 wm_obj dX6_rule_47 ?_
          refine jx_eq (ws' := wsM G b (setc (setc y 2 (y 0)) 0 (y 0))) (congrArg (wsM G b) (by first | rfl | (rw [setc_setc]; rfl) | (simp only [setc_setc, setc_at]; done) | (simp only [setc_setc, setc_at]; rfl) | (funext d; simp only [setc_app]; (repeat' split) <;> first | rfl | omega | simp_all))) ?_
          refine jx_st (st' := [vI (stoopedP (daysP n.toNat (updI (y 0) 2 (50 * (k : Int)))))]) (by first | rfl | (simp only [setc_at]; done) | (simp only [setc_at]; rfl)) ?_
          refine jx_istore E dX6_rule_50 (by decide) [(5, vI (stoopedP (daysP n.toNat (updI (y 0) 2 (50 * (k : Int)))))), (4, vI (50 * (k : Int))), (3, vI ms), (2, vI bs), (0, .ref (b 0)), (1, vI n)] rfl ?_
          have JN69 : ∀ (u : Int), (u = if bs < 0 ∨ stoopedP (daysP n.toNat (updI (y 0) 2 (50 * (k : Int)))) < ms then 1 else 0) → JX p l e (rmL 8) s m args below meth c 7 G A 0 0 (QI below args s G A (ruleR (y 0) n) (wsM G b (endM (if v100 n then thinkM y else y) (ruleR (y 0) n)))) (wsM G b (setc (setc y 2 (y 0)) 0 (y 0))) 69 [(6, vI u), (5, vI (stoopedP (daysP n.toNat (updI (y 0) 2 (50 * (k : Int)))))), (4, vI (50 * (k : Int))), (3, vI ms), (2, vI bs), (0, .ref (b 0)), (1, vI n)] [] := by
            intro u hu
            refine jx_iload E 0 dX6_rule_69 rfl ?_
            refine jx_if_eq (tgt := 79) E dX6_rule_71 (by decide) (fun c3 => ?_) (fun c3 => ?_)
            · skip
              refine jx_iload_n E 4 dX6_rule_79 rfl ?_
              refine jx_istore_n E dX6_rule_80 (by decide) [(2, vI bs), (6, vI u), (5, vI (stoopedP (daysP n.toNat (updI (y 0) 2 (50 * (k : Int)))))), (4, vI (50 * (k : Int))), (3, vI ms), (0, .ref (b 0)), (1, vI n)] rfl ?_
              refine jx_iload E 1 dX6_rule_81 rfl ?_
              refine jx_if_eq (tgt := 91) E dX6_rule_83 (by decide) (fun c4 => ?_) (fun c4 => ?_)
              · skip
                refine jx_iload_n E 4 dX6_rule_91 rfl ?_
                refine jx_istore_n E dX6_rule_92 (by decide) [(3, vI ms), (2, vI bs), (6, vI u), (5, vI (stoopedP (daysP n.toNat (updI (y 0) 2 (50 * (k : Int)))))), (4, vI (50 * (k : Int))), (0, .ref (b 0)), (1, vI n)] rfl ?_
                refine jx_iinc E 4 dX6_rule_93 rfl (by decide) [(4, vI (50 * (k : Int) + 50)), (3, vI ms), (2, vI bs), (6, vI u), (5, vI (stoopedP (daysP n.toNat (updI (y 0) 2 (50 * (k : Int)))))), (0, .ref (b 0)), (1, vI n)] rfl ?_
                refine jx_goto (tgt := 29) E dX6_rule_96 (by decide) ?_
                refine jx_lv (lv' := [(4, vI (50 * (k : Int) + 50)), (3, vI ms), (2, vI bs), (0, .ref (b 0)), (1, vI n)]) [0, 1, 2, 5, 6] rfl ?_
                refine jx_lve (congrArg (fun z => [(4, vI z), (3, vI ms), (2, vI bs), (0, Value.ref (b 0)), (1, vI n)]) (show (50 * (k : Int)) + 50 = 50 * ((k + 1 : Nat) : Int) by omega)) ?_
                exact ih (k + 1) _ _ (by omega) (by omega) (by rw [ruF_1]; omega) (by rw [ruF_2]; omega) (by omega)
              · skip
                refine jx_iload E 2 dX6_rule_86 rfl ?_
                refine jx_goto (tgt := 92) E dX6_rule_88 (by decide) ?_
                refine jx_istore_n E dX6_rule_92 (by decide) [(3, vI (stoopedP (daysP n.toNat (updI (y 0) 2 (50 * (k : Int)))))), (2, vI bs), (6, vI u), (5, vI (stoopedP (daysP n.toNat (updI (y 0) 2 (50 * (k : Int)))))), (4, vI (50 * (k : Int))), (0, .ref (b 0)), (1, vI n)] rfl ?_
                refine jx_iinc E 4 dX6_rule_93 rfl (by decide) [(4, vI (50 * (k : Int) + 50)), (3, vI (stoopedP (daysP n.toNat (updI (y 0) 2 (50 * (k : Int)))))), (2, vI bs), (6, vI u), (5, vI (stoopedP (daysP n.toNat (updI (y 0) 2 (50 * (k : Int)))))), (0, .ref (b 0)), (1, vI n)] rfl ?_
                refine jx_goto (tgt := 29) E dX6_rule_96 (by decide) ?_
                refine jx_lv (lv' := [(4, vI (50 * (k : Int) + 50)), (3, vI (stoopedP (daysP n.toNat (updI (y 0) 2 (50 * (k : Int)))))), (2, vI bs), (0, .ref (b 0)), (1, vI n)]) [0, 1, 2, 5, 6] rfl ?_
                refine jx_lve (congrArg (fun z => [(4, vI z), (3, vI (stoopedP (daysP n.toNat (updI (y 0) 2 (50 * (k : Int)))))), (2, vI bs), (0, Value.ref (b 0)), (1, vI n)]) (show (50 * (k : Int)) + 50 = 50 * ((k + 1 : Nat) : Int) by omega)) ?_
                exact ih (k + 1) _ _ (by omega) (by omega) (by rw [ruF_1]; omega) (by rw [ruF_2]; omega) (by omega)
            · skip
              refine jx_iload E 2 dX6_rule_74 rfl ?_
              refine jx_goto (tgt := 80) E dX6_rule_76 (by decide) ?_
              refine jx_istore_n E dX6_rule_80 (by decide) [(2, vI (50 * (k : Int))), (6, vI u), (5, vI (stoopedP (daysP n.toNat (updI (y 0) 2 (50 * (k : Int)))))), (4, vI (50 * (k : Int))), (3, vI ms), (0, .ref (b 0)), (1, vI n)] rfl ?_
              refine jx_iload E 1 dX6_rule_81 rfl ?_
              refine jx_if_eq (tgt := 91) E dX6_rule_83 (by decide) (fun c5 => ?_) (fun c5 => ?_)
              · skip
                refine jx_iload_n E 4 dX6_rule_91 rfl ?_
                refine jx_istore_n E dX6_rule_92 (by decide) [(3, vI ms), (2, vI (50 * (k : Int))), (6, vI u), (5, vI (stoopedP (daysP n.toNat (updI (y 0) 2 (50 * (k : Int)))))), (4, vI (50 * (k : Int))), (0, .ref (b 0)), (1, vI n)] rfl ?_
                refine jx_iinc E 4 dX6_rule_93 rfl (by decide) [(4, vI (50 * (k : Int) + 50)), (3, vI ms), (2, vI (50 * (k : Int))), (6, vI u), (5, vI (stoopedP (daysP n.toNat (updI (y 0) 2 (50 * (k : Int)))))), (0, .ref (b 0)), (1, vI n)] rfl ?_
                refine jx_goto (tgt := 29) E dX6_rule_96 (by decide) ?_
                refine jx_lv (lv' := [(4, vI (50 * (k : Int) + 50)), (3, vI ms), (2, vI (50 * (k : Int))), (0, .ref (b 0)), (1, vI n)]) [0, 1, 2, 5, 6] rfl ?_
                refine jx_lve (congrArg (fun z => [(4, vI z), (3, vI ms), (2, vI (50 * (k : Int))), (0, Value.ref (b 0)), (1, vI n)]) (show (50 * (k : Int)) + 50 = 50 * ((k + 1 : Nat) : Int) by omega)) ?_
                exact ih (k + 1) _ _ (by omega) (by omega) (by rw [ruF_1]; omega) (by rw [ruF_2]; omega) (by omega)
              · skip
                refine jx_iload E 2 dX6_rule_86 rfl ?_
                refine jx_goto (tgt := 92) E dX6_rule_88 (by decide) ?_
                refine jx_istore_n E dX6_rule_92 (by decide) [(3, vI (stoopedP (daysP n.toNat (updI (y 0) 2 (50 * (k : Int)))))), (2, vI (50 * (k : Int))), (6, vI u), (5, vI (stoopedP (daysP n.toNat (updI (y 0) 2 (50 * (k : Int)))))), (4, vI (50 * (k : Int))), (0, .ref (b 0)), (1, vI n)] rfl ?_
                refine jx_iinc E 4 dX6_rule_93 rfl (by decide) [(4, vI (50 * (k : Int) + 50)), (3, vI (stoopedP (daysP n.toNat (updI (y 0) 2 (50 * (k : Int)))))), (2, vI (50 * (k : Int))), (6, vI u), (5, vI (stoopedP (daysP n.toNat (updI (y 0) 2 (50 * (k : Int)))))), (0, .ref (b 0)), (1, vI n)] rfl ?_
                refine jx_goto (tgt := 29) E dX6_rule_96 (by decide) ?_
                refine jx_lv (lv' := [(4, vI (50 * (k : Int) + 50)), (3, vI (stoopedP (daysP n.toNat (updI (y 0) 2 (50 * (k : Int)))))), (2, vI (50 * (k : Int))), (0, .ref (b 0)), (1, vI n)]) [0, 1, 2, 5, 6] rfl ?_
                refine jx_lve (congrArg (fun z => [(4, vI z), (3, vI (stoopedP (daysP n.toNat (updI (y 0) 2 (50 * (k : Int)))))), (2, vI (50 * (k : Int))), (0, Value.ref (b 0)), (1, vI n)]) (show (50 * (k : Int)) + 50 = 50 * ((k + 1 : Nat) : Int) by omega)) ?_
                exact ih (k + 1) _ _ (by omega) (by omega) (by rw [ruF_1]; omega) (by rw [ruF_2]; omega) (by omega)
          refine jx_iload_n E 3 dX6_rule_52 rfl ?_
          refine jx_if_lt (tgt := 62) E dX6_rule_53 (by decide) (fun c6 => ?_) (fun c6 => ?_)
          · skip
            refine jx_iconst E dX6_rule_62 ?_
            refine jx_goto (tgt := 67) E dX6_rule_63 (by decide) ?_
            refine jx_istore E dX6_rule_67 (by decide) [(6, vI 1), (5, vI (stoopedP (daysP n.toNat (updI (y 0) 2 (50 * (k : Int)))))), (4, vI (50 * (k : Int))), (3, vI ms), (2, vI bs), (0, .ref (b 0)), (1, vI n)] rfl ?_
            exact JN69 _ (by omega)
          · skip
            refine jx_iload E 0 dX6_rule_56 rfl ?_
            refine jx_iload_n E 2 dX6_rule_58 rfl ?_
            refine jx_icmp_ge (tgt := 66) E dX6_rule_59 (by decide) (fun c7 => ?_) (fun c7 => ?_)
            · skip
              refine jx_iconst E dX6_rule_66 ?_
              refine jx_istore E dX6_rule_67 (by decide) [(6, vI 0), (5, vI (stoopedP (daysP n.toNat (updI (y 0) 2 (50 * (k : Int)))))), (4, vI (50 * (k : Int))), (3, vI ms), (2, vI bs), (0, .ref (b 0)), (1, vI n)] rfl ?_
              exact JN69 _ (by omega)
            · skip
              refine jx_iconst E dX6_rule_62 ?_
              refine jx_goto (tgt := 67) E dX6_rule_63 (by decide) ?_
              refine jx_istore E dX6_rule_67 (by decide) [(6, vI 1), (5, vI (stoopedP (daysP n.toNat (updI (y 0) 2 (50 * (k : Int)))))), (4, vI (50 * (k : Int))), (3, vI ms), (2, vI bs), (0, .ref (b 0)), (1, vI n)] rfl ?_
              exact JN69 _ (by omega)
    exact LP29 22 0 _ _ (by omega) (by omega) rfl rfl (by omega)
  · skip
    refine jx_aload_n E 0 dX6_rule_11 rfl ?_
    refine jx_ldc E wc_X6_35 dX6_rule_12 ?_
    refine jx_callVi E [vI (-1000000001)] [] (c_X6_finds l G b y (f := (-1000000001)) (by omega)) mb_X6_finds mv_X6_finds wl_X6_37 f_X6 wm_obj dX6_rule_14 ?_
    exact jx_iret E hr dX6_rule_17 (by have hV : ¬ (v100 n) := (by omega); simp only [ruleR, if_neg hV]) (by have hV : ¬ (v100 n) := (by omega); simp only [ruleR, if_neg hV]; rw [endM_f (by decide)])
