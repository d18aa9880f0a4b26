/-! 44.xd: laid by the walker out of specXD -/
theorem jx_alen {p : Program} {l : Launch} {e : Env} {R : Room} {s : State} {m : MethodId} {args : Array Value} {below : List Frame} {meth : Method} {c : Code} {nL : Nat} {G : GT} {A : Nat → Prop} {kc ks : Nat} {Q : State → Prop} {ws : va_W} {pc : Nat} {lv : List (Nat × Value)} {st : List Value} {cc : ByteArray} {own : String} (E : CT p s m args meth c nL G A cc own) (t0 : Nat) {q0 o : Nat} {cA : ClassId} {X : vp_A} {ty : FieldType} {v : Int} (he : ws[q0]? = some (o, .inl (cA, X))) (ht : (tysG G)[t0]? = some (cA, ty)) (hv : Int32.ofNat X.1 = iI v) (hd : decode cc pc = .ok (.arraylength, 1)) (k : JX p l e R s m args below meth c nL G A kc ks Q ws (pc + 1) lv (vI v :: st)) : JX p l e R s m args below meth c nL G A kc ks Q ws pc lv (.ref o :: st) := fun hD H locs ls hP hS hl => va_alen E.1 E.2.1 E.2.2.2.2.2.1 hP q0 t0 he ht hv hd (k hD H locs ls hP hS hl)
set_option maxHeartbeats 4000000 in
theorem c_J7_fill_d0a16 (l : Launch) (G : GT) (a : Nat → Nat) (x : MS) {sh v : Int} (h1 : 0 ≤ sh ∧ sh < 4) (h2 : v = 0) : CtV l G yJ7_fill_d0a16 cJ7_fill_d0a16 5 none 1 [.ref (a (42 + 2 * sh.toNat)), vL v] (wsX G a x) (wsX G a (setc x 5 (zerP (x 5) (40 * sh) (40 * sh + 40)))) := by
  refine CtV.of (by decide) (Nat.le_of_ble_eq_true rfl) ?_
  intro p e s m args below meth c A E hr
  refine jx_lv (lv' := [(0, .ref (a (42 + 2 * sh.toNat))), (1, vL v)]) [0, 1] rfl ?_
  refine jx_iconst E dJ7_fill_d0a16_0 ?_
  refine jx_istore_n E dJ7_fill_d0a16_1 (by decide) [(3, vI 0), (0, .ref (a (42 + 2 * sh.toNat))), (1, vL v)] rfl ?_
  refine jx_aload_n E 1 dJ7_fill_d0a16_2 rfl ?_
  refine jx_alen E 1 (v := 40) (wx_nums (by omega) (by omega)) rfl rfl dJ7_fill_d0a16_3 ?_
  refine jx_istore E dJ7_fill_d0a16_4 (by decide) [(4, vI 40), (3, vI 0), (0, .ref (a (42 + 2 * sh.toNat))), (1, vL v)] rfl ?_
  have LP6 : ∀ (n2 : Nat) (k : Nat), ((k : Int) ≤ 40) → (40 - (k : Int) < n2) → JX p l e (rmL 1) s m args below meth c 5 G A 0 0 (QV below args s G A (wsX G a (setc x 5 (zerP (x 5) (40 * sh) (40 * sh + 40))))) (wsX G a (setc x 5 (zerP (x 5) (40 * sh) (40 * sh + (k : Int))))) 6 [(4, vI 40), (3, vI (k : Int)), (0, .ref (a (42 + 2 * sh.toNat))), (1, vL v)] [] := by
    intro n2
    induction n2 with
    | zero => intro k q1 q2; exfalso; omega
    | succ n2 ih =>
      intro k q1 q2
      refine jx_iload_n E 1 dJ7_fill_d0a16_6 rfl ?_
      refine jx_iload E 0 dJ7_fill_d0a16_7 rfl ?_
      refine jx_icmp_ge (tgt := 22) E dJ7_fill_d0a16_9 (by decide) (fun c1 => ?_) (fun c1 => ?_)
      · skip
        exact jx_vret E hr dJ7_fill_d0a16_22 (by rw [show (k : Int) = 40 by omega])
      · skip
        refine jx_aload_n E 2 dJ7_fill_d0a16_12 rfl ?_
        refine jx_iload_n E 1 dJ7_fill_d0a16_13 rfl ?_
        refine jx_lload_n E 3 dJ7_fill_d0a16_14 rfl ?_
        refine jx_last E (wx_nums (by omega) (by omega)) (wp_nums (by omega) (by omega) (by omega) (by omega)) (by omega) (by omega) (by decide) dJ7_fill_d0a16_15 ?_
        refine jx_eq (ws' := wsX G a (setc x 5 (updI (zerP (x 5) (40 * sh) (40 * sh + (k : Int))) (40 * sh + (k : Int)) v))) (congrArg (wsX G a) (by first | rfl | (rw [setc_setc]; rfl) | exact setc_in _ _ _ _ (by decide) | exact setc_in2 _ _ _ _ _ (by decide) (by decide) | (rw [setc_in _ _ _ _ (by decide), setc_in _ _ _ _ (by decide)]; rfl) | (rw [setc_in _ _ _ _ (by decide), setc_setc]; rfl) | (simp only [setc_setc, setc_at]; done) | (simp only [setc_setc, setc_at]; rfl) | (funext d; simp only [setc_app]; (repeat' split) <;> first | rfl | omega))) ?_
        refine jx_iinc E 1 dJ7_fill_d0a16_16 rfl (by decide) [(3, vI ((k : Int) + 1)), (4, vI 40), (0, .ref (a (42 + 2 * sh.toNat))), (1, vL v)] rfl ?_
        refine jx_goto (tgt := 6) E dJ7_fill_d0a16_19 (by decide) ?_
        refine jx_lv (lv' := [(4, vI 40), (3, vI ((k : Int) + 1)), (0, .ref (a (42 + 2 * sh.toNat))), (1, vL v)]) [1, 0, 2, 3] rfl ?_
        rw [show updI (zerP (x 5) (40 * sh) (40 * sh + (k : Int))) (40 * sh + (k : Int)) v = zerP (x 5) (40 * sh) (40 * sh + ((k : Int) + 1)) from by rw [h2]; exact zer_up _ _ _ (by omega)]
        exact ih (k + 1) (by omega) (by omega)
  refine jx_eq (ws' := wsX G a (setc x 5 (zerP (x 5) (40 * sh) (40 * sh + ((0 : Nat) : Int))))) (by rw [show (40 * sh + ((0 : Nat) : Int)) = 40 * sh + 0 from rfl, zer_0]; exact congrArg (wsX G a) (setc_self x 5).symm) ?_
  exact LP6 41 0 (by omega) (by omega)
set_option maxHeartbeats 4000000 in
theorem c_X1_lay (l : Launch) (G : GT) (a : Nat → Nat) (x : MS) {q n sh : Int} (h1 : 0 ≤ sh ∧ sh < 4) (h2 : inR q) (h3 : 0 ≤ n ∧ n ≤ 40) : CtV l G yX1_lay cX1_lay 3 none 2 [.ref (a (41 + 2 * sh.toNat)), vI q, vI n] (wsX G a x) (wsX G a (setc (setc x 9 (updI (updI (x 9) (7 + 2 * sh) q) (8 + 2 * sh) (if q = 0 then 0 else n))) 5 (zerP (x 5) (40 * sh) (40 * sh + 40)))) := by
  unfold inR at h2
  refine CtV.of (by decide) (Nat.le_of_ble_eq_true rfl) ?_
  intro p e s m args below meth c A E hr
  refine jx_lv (lv' := [(0, .ref (a (41 + 2 * sh.toNat))), (1, vI q), (2, vI n)]) [0, 1, 2] rfl ?_
  refine jx_aload_n E 0 dX1_lay_0 rfl ?_
  refine jx_iload_n E 1 dX1_lay_1 rfl ?_
  refine jx_put E f_X1 0 (wx_sht (by omega) (by omega)) (by decide) wf_X1_9 rfl rfl rfl (Nat.le_of_ble_eq_true rfl) (wp_sht0 (by omega) (by omega)) dX1_lay_2 ?_
  refine jx_aload_n E 0 dX1_lay_5 rfl ?_
  refine jx_iload_n E 1 dX1_lay_6 rfl ?_
  have JN24 : ∀ (u : Int), (u = (if q = 0 then 0 else n)) → JX p l e (rmL 2) s m args below meth c 3 G A 0 0 (QV below args s G A (wsX G a (setc (setc x 9 (updI (updI (x 9) (7 + 2 * sh) q) (8 + 2 * sh) (if q = 0 then 0 else n))) 5 (zerP (x 5) (40 * sh) (40 * sh + 40))))) (wsX G a (setc x 9 (updI (x 9) (7 + 2 * sh) q))) 24 [(0, .ref (a (41 + 2 * sh.toNat))), (1, vI q), (2, vI n)] [vI u, .ref (a (41 + 2 * sh.toNat))] := by
    intro u hu
    refine jx_put E f_X1 1 (wx_sht (by omega) (by omega)) (by decide) wf_X1_15 rfl rfl rfl (Nat.le_of_ble_eq_true rfl) (wp_sht1 (by omega) (by omega)) dX1_lay_24 ?_
    refine jx_eq (ws' := wsX G a (setc x 9 (updI (updI (x 9) (7 + 2 * sh) q) (8 + 2 * sh) u))) (congrArg (wsX G a) (by first | rfl | (rw [setc_setc]; rfl) | exact setc_in _ _ _ _ (by decide) | exact setc_in2 _ _ _ _ _ (by decide) (by decide) | (rw [setc_in _ _ _ _ (by decide), setc_in _ _ _ _ (by decide)]; rfl) | (rw [setc_in _ _ _ _ (by decide), setc_setc]; rfl) | (simp only [setc_setc, setc_at]; done) | (simp only [setc_setc, setc_at]; rfl) | (funext d; simp only [setc_app]; (repeat' split) <;> first | rfl | omega))) ?_
    refine jx_aload_n E 0 dX1_lay_27 rfl ?_
    refine jx_get E f_X1 2 (v := .ref (a (42 + 2 * sh.toNat))) (wx_sht (by omega) (by omega)) (by decide) wf_X1_18 rfl dX1_lay_28 ?_
    refine jx_lconst0 E dX1_lay_31 ?_
    refine jx_callSv E [.ref (a (42 + 2 * sh.toNat)), vL 0] [] (c_J7_fill_d0a16 l G a (setc x 9 (updI (updI (x 9) (7 + 2 * sh) q) (8 + 2 * sh) u)) (sh := sh) (v := 0) (by omega) rfl) mb_J7_fill_d0a16 ms_J7_fill_d0a16 wl_X1_31 dX1_lay_32 ?_
    exact jx_vret E hr dX1_lay_35 (by rw [hu]; rfl)
  refine jx_if_ne (tgt := 14) E dX1_lay_7 (by decide) (fun c1 => ?_) (fun c1 => ?_)
  · skip
    refine jx_iconst E dX1_lay_14 ?_
    refine jx_bipush E dX1_lay_15 ?_
    refine jx_iload_n E 2 dX1_lay_17 rfl ?_
    refine jx_min E wl_X1_22 mm_min dX1_lay_18 ?_
    refine jx_max E wl_X1_28 mm_max dX1_lay_21 ?_
    exact JN24 _ (by omega)
  · skip
    refine jx_iconst E dX1_lay_10 ?_
    refine jx_goto (tgt := 24) E dX1_lay_11 (by decide) ?_
    exact JN24 _ (by omega)
set_option maxHeartbeats 4000000 in
theorem c_X5_sheet (l : Launch) (G : GT) (a : Nat → Nat) (x : MS) {sh q n : Int} (h1 : inR sh) (h2 : inR q) (h3 : inR n) : CtI l G yX5_sheet cX5_sheet 4 (some .int) 3 [.ref (a 0), vI sh, vI q, vI n] (wsX G a x) (sheetR sh q n) (wsX G a (endX (if gSheet sh q n then setc (setc x 9 (updI (updI (x 9) (7 + 2 * sh) q) (8 + 2 * sh) (if q = 0 then 0 else n))) 5 (zerP (x 5) (40 * sh) (40 * sh + 40)) else x) (sheetR sh q n))) := by
  unfold inR at h1 h2 h3
  refine CtI.of (by decide) (Nat.le_of_ble_eq_true rfl) ?_
  intro p e s m args below meth c A E hr
  refine jx_lv (lv' := [(0, .ref (a 0)), (1, vI sh), (2, vI q), (3, vI n)]) [0, 1, 2, 3] rfl ?_
  refine jx_iload_n E 1 dX5_sheet_0 rfl ?_
  refine jx_callSi E [vI sh] [] (c_X5_isSheet l G (wsX G a x) (n := sh) (by unfold inR; omega)) mb_X5_isSheet ms_X5_isSheet wl_X5_202 dX5_sheet_1 ?_
  refine jx_if_eq (tgt := 29) E dX5_sheet_4 (by decide) (fun c1 => ?_) (fun c1 => ?_)
  · skip
    refine jx_aload_n E 0 dX5_sheet_29 rfl ?_
    refine jx_ldc E wc_X5_53 dX5_sheet_30 ?_
    refine jx_callVi E [vI (-1000000001)] [] (c_X5_found l G a x (f := (-1000000001)) (by omega)) mb_X5_found mv_X5_found wl_X5_54 f_X5 wx_obj dX5_sheet_32 ?_
    exact jx_iret E hr dX5_sheet_35 (by simp only [sheetR]; omega) (by rw [show sheetR sh q n = (-1000000001) from by simp only [sheetR]; omega, if_neg (show ¬ gSheet sh q n by omega), endX_f (by decide)])
  · skip
    refine jx_iload_n E 2 dX5_sheet_7 rfl ?_
    refine jx_if_eq (tgt := 36) E dX5_sheet_8 (by decide) (fun c2 => ?_) (fun c2 => ?_)
    · skip
      refine jx_iload_n E 3 dX5_sheet_36 rfl ?_
      refine jx_if_ge (tgt := 47) E dX5_sheet_37 (by decide) (fun c3 => ?_) (fun c3 => ?_)
      · skip
        refine jx_iload_n E 3 dX5_sheet_47 rfl ?_
        refine jx_bipush E dX5_sheet_48 ?_
        refine jx_icmp_le (tgt := 60) E dX5_sheet_50 (by decide) (fun c4 => ?_) (fun c4 => ?_)
        · skip
          refine jx_aload_n E 0 dX5_sheet_60 rfl ?_
          refine jx_get E f_X5 6 (v := .ref (a 40)) wx_obj (by decide) wf_X5_45 rfl dX5_sheet_61 ?_
          refine jx_iload_n E 1 dX5_sheet_64 rfl ?_
          refine jx_aald E 3 (y := a (41 + 2 * sh.toNat)) wx_shts rfl rfl (by omega) (by omega) (by decide) dX5_sheet_65 ?_
          refine jx_iload_n E 2 dX5_sheet_66 rfl ?_
          refine jx_iload_n E 3 dX5_sheet_67 rfl ?_
          refine jx_callVv E [vI q, vI n] [] (c_X1_lay l G a x (q := q) (n := n) (sh := sh) (by omega) (by unfold inR; omega) (by omega)) mb_X1_lay mv_X1_lay wl_X5_206 f_X1 (wx_sht (by omega) (by omega)) dX5_sheet_68 ?_
          refine jx_eq (ws' := wsX G a (setc (setc x 9 (updI (updI (x 9) (7 + 2 * sh) q) (8 + 2 * sh) (if q = 0 then 0 else n))) 5 (zerP (x 5) (40 * sh) (40 * sh + 40)))) (congrArg (wsX G a) (by first | rfl | (rw [setc_setc]; rfl) | exact setc_in _ _ _ _ (by decide) | exact setc_in2 _ _ _ _ _ (by decide) (by decide) | (rw [setc_in _ _ _ _ (by decide), setc_in _ _ _ _ (by decide)]; rfl) | (rw [setc_in _ _ _ _ (by decide), setc_setc]; rfl) | (simp only [setc_setc, setc_at]; done) | (simp only [setc_setc, setc_at]; rfl) | (funext d; simp only [setc_app]; (repeat' split) <;> first | rfl | omega))) ?_
          refine jx_aload_n E 0 dX5_sheet_71 rfl ?_
          refine jx_get E f_X5 6 (v := .ref (a 40)) wx_obj (by decide) wf_X5_45 rfl dX5_sheet_72 ?_
          refine jx_iload_n E 1 dX5_sheet_75 rfl ?_
          refine jx_aald E 3 (y := a (41 + 2 * sh.toNat)) wx_shts rfl rfl (by omega) (by omega) (by decide) dX5_sheet_76 ?_
          refine jx_get E f_X1 1 (v := vI ((updI (updI (x 9) (7 + 2 * sh) q) (8 + 2 * sh) (if q = 0 then 0 else n)) (8 + 2 * sh))) (wx_sht (by omega) (by omega)) (by decide) wf_X5_210 (by first | rfl | (simp only [setc_at, List.getElem?_cons_zero, List.getElem?_cons_succ]; done) | (simp [setc_at]; done)) dX5_sheet_77 ?_
          exact jx_iret E hr dX5_sheet_80 (by simp only [sheetR]; rw [updI_at]; omega) (by rw [show sheetR sh q n = (if q = 0 then 0 else n) from by simp only [sheetR]; omega, if_pos (show gSheet sh q n by omega), endX_n (by omega)])
        · skip
          refine jx_aload_n E 0 dX5_sheet_53 rfl ?_
          refine jx_ldc E wc_X5_53 dX5_sheet_54 ?_
          refine jx_callVi E [vI (-1000000001)] [] (c_X5_found l G a x (f := (-1000000001)) (by omega)) mb_X5_found mv_X5_found wl_X5_54 f_X5 wx_obj dX5_sheet_56 ?_
          exact jx_iret E hr dX5_sheet_59 (by simp only [sheetR]; omega) (by rw [show sheetR sh q n = (-1000000001) from by simp only [sheetR]; omega, if_neg (show ¬ gSheet sh q n by omega), endX_f (by decide)])
      · skip
        refine jx_aload_n E 0 dX5_sheet_40 rfl ?_
        refine jx_ldc E wc_X5_205 dX5_sheet_41 ?_
        refine jx_callVi E [vI (-1000000007)] [] (c_X5_found l G a x (f := (-1000000007)) (by omega)) mb_X5_found mv_X5_found wl_X5_54 f_X5 wx_obj dX5_sheet_43 ?_
        exact jx_iret E hr dX5_sheet_46 (by simp only [sheetR]; omega) (by rw [show sheetR sh q n = (-1000000007) from by simp only [sheetR]; omega, if_neg (show ¬ gSheet sh q n by omega), endX_f (by decide)])
    · skip
      refine jx_iload_n E 2 dX5_sheet_11 rfl ?_
      refine jx_bipush E dX5_sheet_12 ?_
      refine jx_icmp_eq (tgt := 36) E dX5_sheet_14 (by decide) (fun c5 => ?_) (fun c5 => ?_)
      · skip
        refine jx_iload_n E 3 dX5_sheet_36 rfl ?_
        refine jx_if_ge (tgt := 47) E dX5_sheet_37 (by decide) (fun c6 => ?_) (fun c6 => ?_)
        · skip
          refine jx_iload_n E 3 dX5_sheet_47 rfl ?_
          refine jx_bipush E dX5_sheet_48 ?_
          refine jx_icmp_le (tgt := 60) E dX5_sheet_50 (by decide) (fun c7 => ?_) (fun c7 => ?_)
          · skip
            refine jx_aload_n E 0 dX5_sheet_60 rfl ?_
            refine jx_get E f_X5 6 (v := .ref (a 40)) wx_obj (by decide) wf_X5_45 rfl dX5_sheet_61 ?_
            refine jx_iload_n E 1 dX5_sheet_64 rfl ?_
            refine jx_aald E 3 (y := a (41 + 2 * sh.toNat)) wx_shts rfl rfl (by omega) (by omega) (by decide) dX5_sheet_65 ?_
            refine jx_iload_n E 2 dX5_sheet_66 rfl ?_
            refine jx_iload_n E 3 dX5_sheet_67 rfl ?_
            refine jx_callVv E [vI q, vI n] [] (c_X1_lay l G a x (q := q) (n := n) (sh := sh) (by omega) (by unfold inR; omega) (by omega)) mb_X1_lay mv_X1_lay wl_X5_206 f_X1 (wx_sht (by omega) (by omega)) dX5_sheet_68 ?_
            refine jx_eq (ws' := wsX G a (setc (setc x 9 (updI (updI (x 9) (7 + 2 * sh) q) (8 + 2 * sh) (if q = 0 then 0 else n))) 5 (zerP (x 5) (40 * sh) (40 * sh + 40)))) (congrArg (wsX G a) (by first | rfl | (rw [setc_setc]; rfl) | exact setc_in _ _ _ _ (by decide) | exact setc_in2 _ _ _ _ _ (by decide) (by decide) | (rw [setc_in _ _ _ _ (by decide), setc_in _ _ _ _ (by decide)]; rfl) | (rw [setc_in _ _ _ _ (by decide), setc_setc]; rfl) | (simp only [setc_setc, setc_at]; done) | (simp only [setc_setc, setc_at]; rfl) | (funext d; simp only [setc_app]; (repeat' split) <;> first | rfl | omega))) ?_
            refine jx_aload_n E 0 dX5_sheet_71 rfl ?_
            refine jx_get E f_X5 6 (v := .ref (a 40)) wx_obj (by decide) wf_X5_45 rfl dX5_sheet_72 ?_
            refine jx_iload_n E 1 dX5_sheet_75 rfl ?_
            refine jx_aald E 3 (y := a (41 + 2 * sh.toNat)) wx_shts rfl rfl (by omega) (by omega) (by decide) dX5_sheet_76 ?_
            refine jx_get E f_X1 1 (v := vI ((updI (updI (x 9) (7 + 2 * sh) q) (8 + 2 * sh) (if q = 0 then 0 else n)) (8 + 2 * sh))) (wx_sht (by omega) (by omega)) (by decide) wf_X5_210 (by first | rfl | (simp only [setc_at, List.getElem?_cons_zero, List.getElem?_cons_succ]; done) | (simp [setc_at]; done)) dX5_sheet_77 ?_
            exact jx_iret E hr dX5_sheet_80 (by simp only [sheetR]; rw [updI_at]; omega) (by rw [show sheetR sh q n = (if q = 0 then 0 else n) from by simp only [sheetR]; omega, if_pos (show gSheet sh q n by omega), endX_n (by omega)])
          · skip
            refine jx_aload_n E 0 dX5_sheet_53 rfl ?_
            refine jx_ldc E wc_X5_53 dX5_sheet_54 ?_
            refine jx_callVi E [vI (-1000000001)] [] (c_X5_found l G a x (f := (-1000000001)) (by omega)) mb_X5_found mv_X5_found wl_X5_54 f_X5 wx_obj dX5_sheet_56 ?_
            exact jx_iret E hr dX5_sheet_59 (by simp only [sheetR]; omega) (by rw [show sheetR sh q n = (-1000000001) from by simp only [sheetR]; omega, if_neg (show ¬ gSheet sh q n by omega), endX_f (by decide)])
        · skip
          refine jx_aload_n E 0 dX5_sheet_40 rfl ?_
          refine jx_ldc E wc_X5_205 dX5_sheet_41 ?_
          refine jx_callVi E [vI (-1000000007)] [] (c_X5_found l G a x (f := (-1000000007)) (by omega)) mb_X5_found mv_X5_found wl_X5_54 f_X5 wx_obj dX5_sheet_43 ?_
          exact jx_iret E hr dX5_sheet_46 (by simp only [sheetR]; omega) (by rw [show sheetR sh q n = (-1000000007) from by simp only [sheetR]; omega, if_neg (show ¬ gSheet sh q n by omega), endX_f (by decide)])
      · skip
        refine jx_iload_n E 2 dX5_sheet_17 rfl ?_
        refine jx_bipush E dX5_sheet_18 ?_
        refine jx_icmp_eq (tgt := 36) E dX5_sheet_20 (by decide) (fun c8 => ?_) (fun c8 => ?_)
        · skip
          refine jx_iload_n E 3 dX5_sheet_36 rfl ?_
          refine jx_if_ge (tgt := 47) E dX5_sheet_37 (by decide) (fun c9 => ?_) (fun c9 => ?_)
          · skip
            refine jx_iload_n E 3 dX5_sheet_47 rfl ?_
            refine jx_bipush E dX5_sheet_48 ?_
            refine jx_icmp_le (tgt := 60) E dX5_sheet_50 (by decide) (fun c10 => ?_) (fun c10 => ?_)
            · skip
              refine jx_aload_n E 0 dX5_sheet_60 rfl ?_
              refine jx_get E f_X5 6 (v := .ref (a 40)) wx_obj (by decide) wf_X5_45 rfl dX5_sheet_61 ?_
              refine jx_iload_n E 1 dX5_sheet_64 rfl ?_
              refine jx_aald E 3 (y := a (41 + 2 * sh.toNat)) wx_shts rfl rfl (by omega) (by omega) (by decide) dX5_sheet_65 ?_
              refine jx_iload_n E 2 dX5_sheet_66 rfl ?_
              refine jx_iload_n E 3 dX5_sheet_67 rfl ?_
              refine jx_callVv E [vI q, vI n] [] (c_X1_lay l G a x (q := q) (n := n) (sh := sh) (by omega) (by unfold inR; omega) (by omega)) mb_X1_lay mv_X1_lay wl_X5_206 f_X1 (wx_sht (by omega) (by omega)) dX5_sheet_68 ?_
              refine jx_eq (ws' := wsX G a (setc (setc x 9 (updI (updI (x 9) (7 + 2 * sh) q) (8 + 2 * sh) (if q = 0 then 0 else n))) 5 (zerP (x 5) (40 * sh) (40 * sh + 40)))) (congrArg (wsX G a) (by first | rfl | (rw [setc_setc]; rfl) | exact setc_in _ _ _ _ (by decide) | exact setc_in2 _ _ _ _ _ (by decide) (by decide) | (rw [setc_in _ _ _ _ (by decide), setc_in _ _ _ _ (by decide)]; rfl) | (rw [setc_in _ _ _ _ (by decide), setc_setc]; rfl) | (simp only [setc_setc, setc_at]; done) | (simp only [setc_setc, setc_at]; rfl) | (funext d; simp only [setc_app]; (repeat' split) <;> first | rfl | omega))) ?_
              refine jx_aload_n E 0 dX5_sheet_71 rfl ?_
              refine jx_get E f_X5 6 (v := .ref (a 40)) wx_obj (by decide) wf_X5_45 rfl dX5_sheet_72 ?_
              refine jx_iload_n E 1 dX5_sheet_75 rfl ?_
              refine jx_aald E 3 (y := a (41 + 2 * sh.toNat)) wx_shts rfl rfl (by omega) (by omega) (by decide) dX5_sheet_76 ?_
              refine jx_get E f_X1 1 (v := vI ((updI (updI (x 9) (7 + 2 * sh) q) (8 + 2 * sh) (if q = 0 then 0 else n)) (8 + 2 * sh))) (wx_sht (by omega) (by omega)) (by decide) wf_X5_210 (by first | rfl | (simp only [setc_at, List.getElem?_cons_zero, List.getElem?_cons_succ]; done) | (simp [setc_at]; done)) dX5_sheet_77 ?_
              exact jx_iret E hr dX5_sheet_80 (by simp only [sheetR]; rw [updI_at]; omega) (by rw [show sheetR sh q n = (if q = 0 then 0 else n) from by simp only [sheetR]; omega, if_pos (show gSheet sh q n by omega), endX_n (by omega)])
            · skip
              refine jx_aload_n E 0 dX5_sheet_53 rfl ?_
              refine jx_ldc E wc_X5_53 dX5_sheet_54 ?_
              refine jx_callVi E [vI (-1000000001)] [] (c_X5_found l G a x (f := (-1000000001)) (by omega)) mb_X5_found mv_X5_found wl_X5_54 f_X5 wx_obj dX5_sheet_56 ?_
              exact jx_iret E hr dX5_sheet_59 (by simp only [sheetR]; omega) (by rw [show sheetR sh q n = (-1000000001) from by simp only [sheetR]; omega, if_neg (show ¬ gSheet sh q n by omega), endX_f (by decide)])
          · skip
            refine jx_aload_n E 0 dX5_sheet_40 rfl ?_
            refine jx_ldc E wc_X5_205 dX5_sheet_41 ?_
            refine jx_callVi E [vI (-1000000007)] [] (c_X5_found l G a x (f := (-1000000007)) (by omega)) mb_X5_found mv_X5_found wl_X5_54 f_X5 wx_obj dX5_sheet_43 ?_
            exact jx_iret E hr dX5_sheet_46 (by simp only [sheetR]; omega) (by rw [show sheetR sh q n = (-1000000007) from by simp only [sheetR]; omega, if_neg (show ¬ gSheet sh q n by omega), endX_f (by decide)])
        · skip
          refine jx_iload_n E 2 dX5_sheet_23 rfl ?_
          refine jx_bipush E dX5_sheet_24 ?_
          refine jx_icmp_eq (tgt := 36) E dX5_sheet_26 (by decide) (fun c11 => ?_) (fun c11 => ?_)
          · skip
            refine jx_iload_n E 3 dX5_sheet_36 rfl ?_
            refine jx_if_ge (tgt := 47) E dX5_sheet_37 (by decide) (fun c12 => ?_) (fun c12 => ?_)
            · skip
              refine jx_iload_n E 3 dX5_sheet_47 rfl ?_
              refine jx_bipush E dX5_sheet_48 ?_
              refine jx_icmp_le (tgt := 60) E dX5_sheet_50 (by decide) (fun c13 => ?_) (fun c13 => ?_)
              · skip
                refine jx_aload_n E 0 dX5_sheet_60 rfl ?_
                refine jx_get E f_X5 6 (v := .ref (a 40)) wx_obj (by decide) wf_X5_45 rfl dX5_sheet_61 ?_
                refine jx_iload_n E 1 dX5_sheet_64 rfl ?_
                refine jx_aald E 3 (y := a (41 + 2 * sh.toNat)) wx_shts rfl rfl (by omega) (by omega) (by decide) dX5_sheet_65 ?_
                refine jx_iload_n E 2 dX5_sheet_66 rfl ?_
                refine jx_iload_n E 3 dX5_sheet_67 rfl ?_
                refine jx_callVv E [vI q, vI n] [] (c_X1_lay l G a x (q := q) (n := n) (sh := sh) (by omega) (by unfold inR; omega) (by omega)) mb_X1_lay mv_X1_lay wl_X5_206 f_X1 (wx_sht (by omega) (by omega)) dX5_sheet_68 ?_
                refine jx_eq (ws' := wsX G a (setc (setc x 9 (updI (updI (x 9) (7 + 2 * sh) q) (8 + 2 * sh) (if q = 0 then 0 else n))) 5 (zerP (x 5) (40 * sh) (40 * sh + 40)))) (congrArg (wsX G a) (by first | rfl | (rw [setc_setc]; rfl) | exact setc_in _ _ _ _ (by decide) | exact setc_in2 _ _ _ _ _ (by decide) (by decide) | (rw [setc_in _ _ _ _ (by decide), setc_in _ _ _ _ (by decide)]; rfl) | (rw [setc_in _ _ _ _ (by decide), setc_setc]; rfl) | (simp only [setc_setc, setc_at]; done) | (simp only [setc_setc, setc_at]; rfl) | (funext d; simp only [setc_app]; (repeat' split) <;> first | rfl | omega))) ?_
                refine jx_aload_n E 0 dX5_sheet_71 rfl ?_
                refine jx_get E f_X5 6 (v := .ref (a 40)) wx_obj (by decide) wf_X5_45 rfl dX5_sheet_72 ?_
                refine jx_iload_n E 1 dX5_sheet_75 rfl ?_
                refine jx_aald E 3 (y := a (41 + 2 * sh.toNat)) wx_shts rfl rfl (by omega) (by omega) (by decide) dX5_sheet_76 ?_
                refine jx_get E f_X1 1 (v := vI ((updI (updI (x 9) (7 + 2 * sh) q) (8 + 2 * sh) (if q = 0 then 0 else n)) (8 + 2 * sh))) (wx_sht (by omega) (by omega)) (by decide) wf_X5_210 (by first | rfl | (simp only [setc_at, List.getElem?_cons_zero, List.getElem?_cons_succ]; done) | (simp [setc_at]; done)) dX5_sheet_77 ?_
                exact jx_iret E hr dX5_sheet_80 (by simp only [sheetR]; rw [updI_at]; omega) (by rw [show sheetR sh q n = (if q = 0 then 0 else n) from by simp only [sheetR]; omega, if_pos (show gSheet sh q n by omega), endX_n (by omega)])
              · skip
                refine jx_aload_n E 0 dX5_sheet_53 rfl ?_
                refine jx_ldc E wc_X5_53 dX5_sheet_54 ?_
                refine jx_callVi E [vI (-1000000001)] [] (c_X5_found l G a x (f := (-1000000001)) (by omega)) mb_X5_found mv_X5_found wl_X5_54 f_X5 wx_obj dX5_sheet_56 ?_
                exact jx_iret E hr dX5_sheet_59 (by simp only [sheetR]; omega) (by rw [show sheetR sh q n = (-1000000001) from by simp only [sheetR]; omega, if_neg (show ¬ gSheet sh q n by omega), endX_f (by decide)])
            · skip
              refine jx_aload_n E 0 dX5_sheet_40 rfl ?_
              refine jx_ldc E wc_X5_205 dX5_sheet_41 ?_
              refine jx_callVi E [vI (-1000000007)] [] (c_X5_found l G a x (f := (-1000000007)) (by omega)) mb_X5_found mv_X5_found wl_X5_54 f_X5 wx_obj dX5_sheet_43 ?_
              exact jx_iret E hr dX5_sheet_46 (by simp only [sheetR]; omega) (by rw [show sheetR sh q n = (-1000000007) from by simp only [sheetR]; omega, if_neg (show ¬ gSheet sh q n by omega), endX_f (by decide)])
          · skip
            refine jx_aload_n E 0 dX5_sheet_29 rfl ?_
            refine jx_ldc E wc_X5_53 dX5_sheet_30 ?_
            refine jx_callVi E [vI (-1000000001)] [] (c_X5_found l G a x (f := (-1000000001)) (by omega)) mb_X5_found mv_X5_found wl_X5_54 f_X5 wx_obj dX5_sheet_32 ?_
            exact jx_iret E hr dX5_sheet_35 (by simp only [sheetR]; omega) (by rw [show sheetR sh q n = (-1000000001) from by simp only [sheetR]; omega, if_neg (show ¬ gSheet sh q n by omega), endX_f (by decide)])
