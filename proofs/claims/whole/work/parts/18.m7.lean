/-! 18.m7: laid by the walker out of specM7 -/
theorem setc_in (z : MS) {c d : Nat} (f g k : Int → Int) (h : c ≠ d) : setc (setc (setc z c f) d g) c k = setc (setc z c k) d g := by rw [setc_comm _ _ _ (Ne.symm h), setc_setc]
theorem setc_in2 (z : MS) {c d e : Nat} (f g i k : Int → Int) (h : c ≠ d) (h2 : c ≠ e) : setc (setc (setc (setc z c f) d g) e i) c k = setc (setc (setc z c k) d g) e i := by rw [setc_comm _ _ _ (Ne.symm h2), setc_in _ _ _ _ h]
/-- a copy within a row, place by place: up to k from below, or from above -/
def upP (u : Int → Int) (a d k : Int) : Int → Int := fun q => if d ≤ q ∧ q < d + k then u (a + (q - d)) else u q
def dnP (u : Int → Int) (a d n k : Int) : Int → Int := fun q => if d + n - k ≤ q ∧ q < d + n then u (a + (q - d)) else u q
theorem up_0 (u : Int → Int) (a d : Int) : upP u a d 0 = u := by funext q; simp only [upP]; rw [if_neg (by omega)]
theorem dn_0 (u : Int → Int) (a d n : Int) : dnP u a d n 0 = u := by funext q; simp only [dnP]; rw [if_neg (by omega)]
theorem up_1 (u : Int → Int) (a d k : Int) (hk : 0 ≤ k) (h : a + k < d ∨ d + k ≤ a + k) : updI (upP u a d k) (d + k) (upP u a d k (a + k)) = upP u a d (k + 1) := by
  have e : upP u a d k (a + k) = u (a + k) := by simp only [upP]; rw [if_neg (by omega)]
  rw [e]
  funext q
  simp only [updI_app, upP]
  by_cases hq : q = d + k
  · rw [if_pos hq, if_pos (by omega), hq, show a + (d + k - d) = a + k by omega]
  · rw [if_neg hq]; (repeat' split) <;> first | rfl | (exfalso; omega)
theorem dn_1 (u : Int → Int) (a d n k : Int) (hk : 0 ≤ k) (h : a + (n - 1 - k) < d + n - k ∨ d + n ≤ a + (n - 1 - k)) : updI (dnP u a d n k) (d + (n - 1 - k)) (dnP u a d n k (a + (n - 1 - k))) = dnP u a d n (k + 1) := by
  have e : dnP u a d n k (a + (n - 1 - k)) = u (a + (n - 1 - k)) := by simp only [dnP]; rw [if_neg (by omega)]
  rw [e]
  funext q
  simp only [updI_app, dnP]
  by_cases hq : q = d + (n - 1 - k)
  · rw [if_pos hq, if_pos (by omega), hq, show a + (d + (n - 1 - k) - d) = a + (n - 1 - k) by omega]
  · rw [if_neg hq]; (repeat' split) <;> first | rfl | (exfalso; omega)
theorem up_n (u : Int → Int) (a d n : Int) : upP u a d n = cpP u a d n := rfl
theorem dn_n (u : Int → Int) (a d n : Int) : dnP u a d n n = cpP u a d n := by
  funext q; simp only [dnP, cpP]; rw [show d + n - n = d by omega]
/-- the copy's rows after k places -/
def coP (u : Int → Int) (a d n f g k : Int) : Int → Int := if f < g then dnP u a d n k else upP u a d k
theorem book_1 (u : Int → Int) (a b : Int) (t : Int → Int) (k : Nat) : updI (bookP u a b t (k : Int)) (a + (k : Int)) (cutP b (daysP k t 1)) = bookP u a b t ((k + 1 : Nat) : Int) := by
  funext q
  simp only [updI_app, bookP]
  by_cases hq : q = a + (k : Int)
  · rw [if_pos hq, if_pos (by omega), show (q - a).toNat = k by omega]
  · rw [if_neg hq]; (repeat' split) <;> first | rfl | (exfalso; omega)
theorem book_0 (u : Int → Int) (a b : Int) (t : Int → Int) : bookP u a b t 0 = u := by funext q; simp only [bookP]; rw [if_neg (by omega)]
theorem inL_small {z : Int} (h : -2147483648 ≤ z ∧ z ≤ 2147483647) : inL z := by unfold inL; omega
set_option maxHeartbeats 4000000 in
theorem c_X6_notCopied (l : Launch) (G : GT) (b : Nat → Nat) (y : MS) {sh f th g n : Int} (h1 : VT 99999 (y 0)) (h2 : VSM y) (h3 : inR sh) (h4 : inR f) (h5 : inR th) (h6 : inR g) (h7 : inR n) : CtI l G yX6_notCopied cX6_notCopied 7 (some .int) 3 [.ref (b 0), vI sh, vI f, vI th, vI g, vI n] (wsM G b y) (whyC (y 5 sh) (y 6 sh) (y 5 th) (y 6 th) sh f th g n) (wsM G b y) := by
  obtain ⟨-, v4⟩ : True ∧ (0 ≤ y 0 4 ∧ y 0 4 ≤ 8) := ⟨trivial, h1.2.2.2.2.1⟩
  unfold inR at h3 h4 h5 h6 h7
  have hbs : vSheet sh → vBits (y 5 sh) := fun q => (h2 sh q.1 q.2).1
  have hzs : vSheet sh → 0 ≤ y 6 sh ∧ y 6 sh ≤ 40 := fun q => ⟨(h2 sh q.1 q.2).2.1, (h2 sh q.1 q.2).2.2.1⟩
  have hbt : vSheet th → vBits (y 5 th) := fun q => (h2 th q.1 q.2).1
  have hzt : vSheet th → 0 ≤ y 6 th ∧ y 6 th ≤ 40 := fun q => ⟨(h2 th q.1 q.2).2.1, (h2 th q.1 q.2).2.2.1⟩
  refine CtI.of (by decide) (Nat.le_of_ble_eq_true rfl) ?_
  intro p e s m args below meth c A E hr
  refine jx_lv (lv' := [(0, .ref (b 0)), (1, vI sh), (2, vI f), (3, vI th), (4, vI g), (5, vI n)]) [0, 1, 2, 3, 4, 5] rfl ?_
  refine jx_iload_n E 1 dX6_notCopied_0 rfl ?_
  refine jx_callSi E [vI sh] [] (c_X6_isSheet l G (wsM G b y) (sh := sh) (by unfold inR; omega)) mb_X6_isSheet ms_X6_isSheet wl_X6_210 dX6_notCopied_1 ?_
  refine jx_if_eq (tgt := 14) E dX6_notCopied_4 (by decide) (fun c1 => ?_) (fun c1 => ?_)
  · skip
    refine jx_ldc E wc_X6_35 dX6_notCopied_14 ?_
    exact jx_iret E hr dX6_notCopied_16 (by simp only [whyC]; omega) (by first | rfl | (congr 1; done))
  · skip
    refine jx_iload_n E 3 dX6_notCopied_7 rfl ?_
    refine jx_callSi E [vI th] [] (c_X6_isSheet l G (wsM G b y) (sh := th) (by unfold inR; omega)) mb_X6_isSheet ms_X6_isSheet wl_X6_210 dX6_notCopied_8 ?_
    refine jx_if_ne (tgt := 17) E dX6_notCopied_11 (by decide) (fun c2 => ?_) (fun c2 => ?_)
    · skip
      refine jx_aload_n E 0 dX6_notCopied_17 rfl ?_
      refine jx_get E f_X6 12 (v := .ref (b 6)) wm_obj (by decide) wf_X6_25 rfl dX6_notCopied_18 ?_
      refine jx_iload_n E 1 dX6_notCopied_21 rfl ?_
      refine jx_iald E (v := (y 5) sh) wm_bits (row0_at (by omega) (by omega)) (by omega) (by omega) (by decide) dX6_notCopied_22 ?_
      refine jx_if_eq (tgt := 35) E dX6_notCopied_23 (by decide) (fun c3 => ?_) (fun c3 => ?_)
      · skip
        refine jx_ldc E wc_X6_214 dX6_notCopied_35 ?_
        exact jx_iret E hr dX6_notCopied_37 (by simp only [whyC]; omega) (by first | rfl | (congr 1; done))
      · skip
        refine jx_aload_n E 0 dX6_notCopied_26 rfl ?_
        refine jx_get E f_X6 12 (v := .ref (b 6)) wm_obj (by decide) wf_X6_25 rfl dX6_notCopied_27 ?_
        refine jx_iload_n E 3 dX6_notCopied_30 rfl ?_
        refine jx_iald E (v := (y 5) th) wm_bits (row0_at (by omega) (by omega)) (by omega) (by omega) (by decide) dX6_notCopied_31 ?_
        refine jx_if_ne (tgt := 38) E dX6_notCopied_32 (by decide) (fun c4 => ?_) (fun c4 => ?_)
        · skip
          refine jx_aload_n E 0 dX6_notCopied_38 rfl ?_
          refine jx_get E f_X6 12 (v := .ref (b 6)) wm_obj (by decide) wf_X6_25 rfl dX6_notCopied_39 ?_
          refine jx_iload_n E 1 dX6_notCopied_42 rfl ?_
          refine jx_iald E (v := (y 5) sh) wm_bits (row0_at (by omega) (by omega)) (by omega) (by omega) (by decide) dX6_notCopied_43 ?_
          refine jx_aload_n E 0 dX6_notCopied_44 rfl ?_
          refine jx_get E f_X6 12 (v := .ref (b 6)) wm_obj (by decide) wf_X6_25 rfl dX6_notCopied_45 ?_
          refine jx_iload_n E 3 dX6_notCopied_48 rfl ?_
          refine jx_iald E (v := (y 5) th) wm_bits (row0_at (by omega) (by omega)) (by omega) (by omega) (by decide) dX6_notCopied_49 ?_
          refine jx_icmp_eq (tgt := 56) E dX6_notCopied_50 (by decide) (fun c5 => ?_) (fun c5 => ?_)
          · skip
            have JN104 : ∀ (u : Int), (u = if 0 ≤ n ∧ 0 ≤ f ∧ 0 ≤ g ∧ n ≤ y 6 sh - f ∧ n ≤ y 6 th - g then 1 else 0) → JX p l e (rmL 3) s m args below meth c 7 G A 0 0 (QI below args s G A (whyC (y 5 sh) (y 6 sh) (y 5 th) (y 6 th) sh f th g n) (wsM G b y)) (wsM G b y) 104 [(6, vI u), (0, .ref (b 0)), (1, vI sh), (2, vI f), (3, vI th), (4, vI g), (5, vI n)] [] := by
              intro u hu
              refine jx_iload E 0 dX6_notCopied_104 rfl ?_
              refine jx_if_eq (tgt := 113) E dX6_notCopied_106 (by decide) (fun c6 => ?_) (fun c6 => ?_)
              · skip
                refine jx_ldc E wc_X6_35 dX6_notCopied_113 ?_
                exact jx_iret E hr dX6_notCopied_115 (by simp only [whyC]; omega) (by first | rfl | (congr 1; done))
              · skip
                refine jx_iconst E dX6_notCopied_109 ?_
                refine jx_goto (tgt := 115) E dX6_notCopied_110 (by decide) ?_
                exact jx_iret E hr dX6_notCopied_115 (by simp only [whyC]; omega) (by first | rfl | (congr 1; done))
            refine jx_iload E 5 dX6_notCopied_56 rfl ?_
            refine jx_if_lt (tgt := 101) E dX6_notCopied_58 (by decide) (fun c7 => ?_) (fun c7 => ?_)
            · skip
              refine jx_iconst E dX6_notCopied_101 ?_
              refine jx_istore E dX6_notCopied_102 (by decide) [(6, vI 0), (0, .ref (b 0)), (1, vI sh), (2, vI f), (3, vI th), (4, vI g), (5, vI n)] rfl ?_
              exact JN104 _ (by omega)
            · skip
              refine jx_iload_n E 2 dX6_notCopied_61 rfl ?_
              refine jx_if_lt (tgt := 101) E dX6_notCopied_62 (by decide) (fun c8 => ?_) (fun c8 => ?_)
              · skip
                refine jx_iconst E dX6_notCopied_101 ?_
                refine jx_istore E dX6_notCopied_102 (by decide) [(6, vI 0), (0, .ref (b 0)), (1, vI sh), (2, vI f), (3, vI th), (4, vI g), (5, vI n)] rfl ?_
                exact JN104 _ (by omega)
              · skip
                refine jx_iload E 4 dX6_notCopied_65 rfl ?_
                refine jx_if_lt (tgt := 101) E dX6_notCopied_67 (by decide) (fun c9 => ?_) (fun c9 => ?_)
                · skip
                  refine jx_iconst E dX6_notCopied_101 ?_
                  refine jx_istore E dX6_notCopied_102 (by decide) [(6, vI 0), (0, .ref (b 0)), (1, vI sh), (2, vI f), (3, vI th), (4, vI g), (5, vI n)] rfl ?_
                  exact JN104 _ (by omega)
                · skip
                  refine jx_iload E 5 dX6_notCopied_70 rfl ?_
                  refine jx_aload_n E 0 dX6_notCopied_72 rfl ?_
                  refine jx_get E f_X6 13 (v := .ref (b 7)) wm_obj (by decide) wf_X6_28 rfl dX6_notCopied_73 ?_
                  refine jx_iload_n E 1 dX6_notCopied_76 rfl ?_
                  refine jx_iald E (v := (y 6) sh) wm_size (row0_at (by omega) (by omega)) (by omega) (by omega) (by decide) dX6_notCopied_77 ?_
                  refine jx_iload_n E 2 dX6_notCopied_78 rfl ?_
                  refine jx_isub E dX6_notCopied_79 ?_
                  refine jx_icmp_gt (tgt := 101) E dX6_notCopied_80 (by decide) (fun c10 => ?_) (fun c10 => ?_)
                  · skip
                    refine jx_iconst E dX6_notCopied_101 ?_
                    refine jx_istore E dX6_notCopied_102 (by decide) [(6, vI 0), (0, .ref (b 0)), (1, vI sh), (2, vI f), (3, vI th), (4, vI g), (5, vI n)] rfl ?_
                    exact JN104 _ (by omega)
                  · skip
                    refine jx_iload E 5 dX6_notCopied_83 rfl ?_
                    refine jx_aload_n E 0 dX6_notCopied_85 rfl ?_
                    refine jx_get E f_X6 13 (v := .ref (b 7)) wm_obj (by decide) wf_X6_28 rfl dX6_notCopied_86 ?_
                    refine jx_iload_n E 3 dX6_notCopied_89 rfl ?_
                    refine jx_iald E (v := (y 6) th) wm_size (row0_at (by omega) (by omega)) (by omega) (by omega) (by decide) dX6_notCopied_90 ?_
                    refine jx_iload E 4 dX6_notCopied_91 rfl ?_
                    refine jx_isub E dX6_notCopied_93 ?_
                    refine jx_icmp_gt (tgt := 101) E dX6_notCopied_94 (by decide) (fun c11 => ?_) (fun c11 => ?_)
                    · skip
                      refine jx_iconst E dX6_notCopied_101 ?_
                      refine jx_istore E dX6_notCopied_102 (by decide) [(6, vI 0), (0, .ref (b 0)), (1, vI sh), (2, vI f), (3, vI th), (4, vI g), (5, vI n)] rfl ?_
                      exact JN104 _ (by omega)
                    · skip
                      refine jx_iconst E dX6_notCopied_97 ?_
                      refine jx_goto (tgt := 102) E dX6_notCopied_98 (by decide) ?_
                      refine jx_istore E dX6_notCopied_102 (by decide) [(6, vI 1), (0, .ref (b 0)), (1, vI sh), (2, vI f), (3, vI th), (4, vI g), (5, vI n)] rfl ?_
                      exact JN104 _ (by omega)
          · skip
            refine jx_ldc E wc_X6_104 dX6_notCopied_53 ?_
            exact jx_iret E hr dX6_notCopied_55 (by simp only [whyC]; omega) (by first | rfl | (congr 1; done))
        · skip
          refine jx_ldc E wc_X6_214 dX6_notCopied_35 ?_
          exact jx_iret E hr dX6_notCopied_37 (by simp only [whyC]; omega) (by first | rfl | (congr 1; done))
    · skip
      refine jx_ldc E wc_X6_35 dX6_notCopied_14 ?_
      exact jx_iret E hr dX6_notCopied_16 (by simp only [whyC]; omega) (by first | rfl | (congr 1; done))
set_option maxHeartbeats 4000000 in
theorem c_X6_copy (l : Launch) (G : GT) (b : Nat → Nat) (y : MS) {sh f th g n : Int} (h1 : VT 99999 (y 0)) (h2 : VSM y) (h3 : inR sh) (h4 : inR f) (h5 : inR th) (h6 : inR g) (h7 : inR n) : CtI l G yX6_copy cX6_copy 9 (some .int) 4 [.ref (b 0), vI sh, vI f, vI th, vI g, vI n] (wsM G b y) (if whyC (y 5 sh) (y 6 sh) (y 5 th) (y 6 th) sh f th g n ≠ 0 then whyC (y 5 sh) (y 6 sh) (y 5 th) (y 6 th) sh f th g n else n) (wsM G b (endM (if whyC (y 5 sh) (y 6 sh) (y 5 th) (y 6 th) sh f th g n = 0 then setc y 7 (cpP (y 7) (40 * sh + f) (40 * th + g) n) else y) (if whyC (y 5 sh) (y 6 sh) (y 5 th) (y 6 th) sh f th g n ≠ 0 then whyC (y 5 sh) (y 6 sh) (y 5 th) (y 6 th) sh f th g n else n))) := by
  obtain ⟨-, v4⟩ : True ∧ (0 ≤ y 0 4 ∧ y 0 4 ≤ 8) := ⟨trivial, h1.2.2.2.2.1⟩
  unfold inR at h3 h4 h5 h6 h7
  have hbs : vSheet sh → vBits (y 5 sh) := fun q => (h2 sh q.1 q.2).1
  have hzs : vSheet sh → 0 ≤ y 6 sh ∧ y 6 sh ≤ 40 := fun q => ⟨(h2 sh q.1 q.2).2.1, (h2 sh q.1 q.2).2.2.1⟩
  have hbt : vSheet th → vBits (y 5 th) := fun q => (h2 th q.1 q.2).1
  have hzt : vSheet th → 0 ≤ y 6 th ∧ y 6 th ≤ 40 := fun q => ⟨(h2 th q.1 q.2).2.1, (h2 th q.1 q.2).2.2.1⟩
  have hw0 : whyC (y 5 sh) (y 6 sh) (y 5 th) (y 6 th) sh f th g n = 0 ∨ whyC (y 5 sh) (y 6 sh) (y 5 th) (y 6 th) sh f th g n = -1000000001 ∨ whyC (y 5 sh) (y 6 sh) (y 5 th) (y 6 th) sh f th g n = -1000000003 ∨ whyC (y 5 sh) (y 6 sh) (y 5 th) (y 6 th) sh f th g n = -1000000006 := by simp only [whyC]; omega
  have hwv : whyC (y 5 sh) (y 6 sh) (y 5 th) (y 6 th) sh f th g n = 0 → vSheet sh ∧ vSheet th ∧ 0 ≤ n ∧ 0 ≤ f ∧ 0 ≤ g ∧ n ≤ y 6 sh - f ∧ n ≤ y 6 th - g := by simp only [whyC]; omega
  refine CtI.of (by decide) (Nat.le_of_ble_eq_true rfl) ?_
  intro p e s m args below meth c A E hr
  refine jx_lv (lv' := [(0, .ref (b 0)), (1, vI sh), (2, vI f), (3, vI th), (4, vI g), (5, vI n)]) [0, 1, 2, 3, 4, 5] rfl ?_
  refine jx_aload_n E 0 dX6_copy_0 rfl ?_
  refine jx_iload_n E 1 dX6_copy_1 rfl ?_
  refine jx_iload_n E 2 dX6_copy_2 rfl ?_
  refine jx_iload_n E 3 dX6_copy_3 rfl ?_
  refine jx_iload E 4 dX6_copy_4 rfl ?_
  refine jx_iload E 5 dX6_copy_6 rfl ?_
  refine jx_callVi E [vI sh, vI f, vI th, vI g, vI n] [] (c_X6_notCopied l G b y (sh := sh) (f := f) (th := th) (g := g) (n := n) h1 h2 (by unfold inR; omega) (by unfold inR; omega) (by unfold inR; omega) (by unfold inR; omega) (by unfold inR; omega)) mb_X6_notCopied mv_X6_notCopied wl_X6_222 f_X6 wm_obj dX6_copy_8 ?_
  refine jx_istore E dX6_copy_11 (by decide) [(6, vI (whyC (y 5 sh) (y 6 sh) (y 5 th) (y 6 th) sh f th g n)), (0, .ref (b 0)), (1, vI sh), (2, vI f), (3, vI th), (4, vI g), (5, vI n)] rfl ?_
  refine jx_iload E 0 dX6_copy_13 rfl ?_
  refine jx_if_eq (tgt := 25) E dX6_copy_15 (by decide) (fun c1 => ?_) (fun c1 => ?_)
  · skip
    have hwv := hwv (by omega)
    refine jx_iconst E dX6_copy_25 ?_
    refine jx_istore E dX6_copy_26 (by decide) [(7, vI 0), (6, vI (whyC (y 5 sh) (y 6 sh) (y 5 th) (y 6 th) sh f th g n)), (0, .ref (b 0)), (1, vI sh), (2, vI f), (3, vI th), (4, vI g), (5, vI n)] rfl ?_
    have LP28 : ∀ (n2 : Nat) (k : Nat), ((k : Int) ≤ n) → (n - (k : Int) < n2) → JX p l e (rmL 4) s m args below meth c 9 G A 0 0 (QI below args s G A (if whyC (y 5 sh) (y 6 sh) (y 5 th) (y 6 th) sh f th g n ≠ 0 then whyC (y 5 sh) (y 6 sh) (y 5 th) (y 6 th) sh f th g n else n) (wsM G b (endM (if whyC (y 5 sh) (y 6 sh) (y 5 th) (y 6 th) sh f th g n = 0 then setc y 7 (cpP (y 7) (40 * sh + f) (40 * th + g) n) else y) (if whyC (y 5 sh) (y 6 sh) (y 5 th) (y 6 th) sh f th g n ≠ 0 then whyC (y 5 sh) (y 6 sh) (y 5 th) (y 6 th) sh f th g n else n)))) (wsM G b (setc y 7 (coP (y 7) (40 * sh + f) (40 * th + g) n f g (k : Int)))) 28 [(7, vI (k : Int)), (6, vI (whyC (y 5 sh) (y 6 sh) (y 5 th) (y 6 th) sh f th g n)), (0, .ref (b 0)), (1, vI sh), (2, vI f), (3, vI th), (4, vI g), (5, vI n)] [] := by
      intro n2
      induction n2 with
      | zero => intro k q1 q2; exfalso; omega
      | succ n2 ih =>
        intro k q1 q2
        refine jx_iload E 0 dX6_copy_28 rfl ?_
        refine jx_iload E 7 dX6_copy_30 rfl ?_
        refine jx_icmp_ge (tgt := 90) E dX6_copy_32 (by decide) (fun c2 => ?_) (fun c2 => ?_)
        · skip
          refine jx_iload E 7 dX6_copy_90 rfl ?_
          exact jx_iret E hr dX6_copy_92 (by rw [if_neg (by omega)]) (by rw [if_neg (show ¬ whyC (y 5 sh) (y 6 sh) (y 5 th) (y 6 th) sh f th g n ≠ 0 by omega), if_pos (show whyC (y 5 sh) (y 6 sh) (y 5 th) (y 6 th) sh f th g n = 0 by omega), endM_n (by omega), show (k : Int) = n by omega]; unfold coP; split; rw [dn_n]; rfl)
        · skip
          have JN55 : ∀ (u : Int), (u = if f < g then n - 1 - (k : Int) else (k : Int)) → JX p l e (rmL 4) s m args below meth c 9 G A 0 0 (QI below args s G A (if whyC (y 5 sh) (y 6 sh) (y 5 th) (y 6 th) sh f th g n ≠ 0 then whyC (y 5 sh) (y 6 sh) (y 5 th) (y 6 th) sh f th g n else n) (wsM G b (endM (if whyC (y 5 sh) (y 6 sh) (y 5 th) (y 6 th) sh f th g n = 0 then setc y 7 (cpP (y 7) (40 * sh + f) (40 * th + g) n) else y) (if whyC (y 5 sh) (y 6 sh) (y 5 th) (y 6 th) sh f th g n ≠ 0 then whyC (y 5 sh) (y 6 sh) (y 5 th) (y 6 th) sh f th g n else n)))) (wsM G b (setc y 7 (coP (y 7) (40 * sh + f) (40 * th + g) n f g (k : Int)))) 55 [(8, vI u), (7, vI (k : Int)), (6, vI (whyC (y 5 sh) (y 6 sh) (y 5 th) (y 6 th) sh f th g n)), (0, .ref (b 0)), (1, vI sh), (2, vI f), (3, vI th), (4, vI g), (5, vI n)] [] := by
            intro u hu
            refine jx_aload_n E 3 dX6_copy_55 rfl ?_
            refine jx_get E f_X6 14 (v := .ref (b 8)) wm_obj (by decide) wf_X6_31 rfl dX6_copy_56 ?_
            refine jx_bipush E dX6_copy_59 ?_
            refine jx_iload_n E 6 dX6_copy_61 rfl ?_
            refine jx_imul E dX6_copy_62 ?_
            refine jx_iload E 7 dX6_copy_63 rfl ?_
            refine jx_iadd E dX6_copy_65 ?_
            refine jx_iload E 0 dX6_copy_66 rfl ?_
            refine jx_iadd E dX6_copy_68 ?_
            refine jx_aload_n E 3 dX6_copy_69 rfl ?_
            refine jx_get E f_X6 14 (v := .ref (b 8)) wm_obj (by decide) wf_X6_31 rfl dX6_copy_70 ?_
            refine jx_bipush E dX6_copy_73 ?_
            refine jx_iload_n E 4 dX6_copy_75 rfl ?_
            refine jx_imul E dX6_copy_76 ?_
            refine jx_iload_n E 5 dX6_copy_77 rfl ?_
            refine jx_iadd E dX6_copy_78 ?_
            refine jx_iload E 0 dX6_copy_79 rfl ?_
            refine jx_iadd E dX6_copy_81 ?_
            refine jx_lald E (v := (coP (y 7) (40 * sh + f) (40 * th + g) n f g (k : Int)) (((40 * sh) + f) + u)) wm_cells (row0L_at (by omega) (by omega)) (by omega) (by omega) (by decide) dX6_copy_82 ?_
            refine jx_last E wm_cells (wq_cells (by omega) (by omega)) (by omega) (by omega) (by decide) dX6_copy_83 ?_
            refine jx_eq (ws' := wsM G b (setc y 7 (updI (coP (y 7) (40 * sh + f) (40 * th + g) n f g (k : Int)) (((40 * th) + g) + u) ((coP (y 7) (40 * sh + f) (40 * th + g) n f g (k : Int)) (((40 * sh) + f) + u))))) (congrArg (wsM G b) (by first | rfl | (rw [setc_setc]; rfl) | exact setc_in _ _ _ _ (by decide) | exact setc_in2 _ _ _ _ _ (by decide) (by decide) | (simp only [setc_setc, setc_at]; done) | (simp only [setc_setc, setc_at]; rfl) | (funext d; simp only [setc_app]; (repeat' split) <;> first | rfl | omega))) ?_
            refine jx_iinc E 1 dX6_copy_84 rfl (by decide) [(7, vI ((k : Int) + 1)), (8, vI u), (6, vI (whyC (y 5 sh) (y 6 sh) (y 5 th) (y 6 th) sh f th g n)), (0, .ref (b 0)), (1, vI sh), (2, vI f), (3, vI th), (4, vI g), (5, vI n)] rfl ?_
            refine jx_goto (tgt := 28) E dX6_copy_87 (by decide) ?_
            refine jx_lv (lv' := [(7, vI ((k : Int) + 1)), (6, vI (whyC (y 5 sh) (y 6 sh) (y 5 th) (y 6 th) sh f th g n)), (0, .ref (b 0)), (1, vI sh), (2, vI f), (3, vI th), (4, vI g), (5, vI n)]) [0, 2, 3, 4, 5, 6, 7, 8] rfl ?_
            refine jx_eq (ws' := wsM G b (setc y 7 (coP (y 7) (40 * sh + f) (40 * th + g) n f g ((k + 1 : Nat) : Int)))) (congrArg (fun z => wsM G b (setc y 7 z)) (by subst hu; unfold coP; split; exact dn_1 _ _ _ _ _ (by omega) (by omega); exact up_1 _ _ _ _ (by omega) (by omega))) ?_
            exact ih (k + 1) (by omega) (by omega)
          refine jx_iload_n E 4 dX6_copy_35 rfl ?_
          refine jx_iload E 6 dX6_copy_36 rfl ?_
          refine jx_icmp_ge (tgt := 51) E dX6_copy_38 (by decide) (fun c3 => ?_) (fun c3 => ?_)
          · skip
            refine jx_iload E 0 dX6_copy_51 rfl ?_
            refine jx_istore E dX6_copy_53 (by decide) [(8, vI (k : Int)), (7, vI (k : Int)), (6, vI (whyC (y 5 sh) (y 6 sh) (y 5 th) (y 6 th) sh f th g n)), (0, .ref (b 0)), (1, vI sh), (2, vI f), (3, vI th), (4, vI g), (5, vI n)] rfl ?_
            exact JN55 _ (by omega)
          · skip
            refine jx_iload E 7 dX6_copy_41 rfl ?_
            refine jx_iconst E dX6_copy_43 ?_
            refine jx_isub E dX6_copy_44 ?_
            refine jx_iload E 0 dX6_copy_45 rfl ?_
            refine jx_isub E dX6_copy_47 ?_
            refine jx_goto (tgt := 53) E dX6_copy_48 (by decide) ?_
            refine jx_istore E dX6_copy_53 (by decide) [(8, vI ((n - 1) - (k : Int))), (7, vI (k : Int)), (6, vI (whyC (y 5 sh) (y 6 sh) (y 5 th) (y 6 th) sh f th g n)), (0, .ref (b 0)), (1, vI sh), (2, vI f), (3, vI th), (4, vI g), (5, vI n)] rfl ?_
            exact JN55 _ (by omega)
    refine jx_eq (ws' := wsM G b (setc y 7 (coP (y 7) (40 * sh + f) (40 * th + g) n f g ((0 : Nat) : Int)))) (by rw [show coP (y 7) (40 * sh + f) (40 * th + g) n f g ((0 : Nat) : Int) = y 7 from by unfold coP; split; exact dn_0 _ _ _ _; exact up_0 _ _ _, setc_self]) ?_
    exact LP28 (n.toNat + 1) 0 (by omega) (by omega)
  · skip
    refine jx_aload_n E 1 dX6_copy_18 rfl ?_
    refine jx_iload E 0 dX6_copy_19 rfl ?_
    refine jx_callVi E [vI (whyC (y 5 sh) (y 6 sh) (y 5 th) (y 6 th) sh f th g n)] [] (c_X6_finds l G b y (f := whyC (y 5 sh) (y 6 sh) (y 5 th) (y 6 th) sh f th g n) (by omega)) mb_X6_finds mv_X6_finds wl_X6_37 f_X6 wm_obj dX6_copy_21 ?_
    exact jx_iret E hr dX6_copy_24 (by rw [if_pos (by omega)]) (by rw [if_pos (show whyC (y 5 sh) (y 6 sh) (y 5 th) (y 6 th) sh f th g n ≠ 0 by omega), if_neg (show ¬ whyC (y 5 sh) (y 6 sh) (y 5 th) (y 6 th) sh f th g n = 0 by omega), endM_f (by omega)])
set_option maxHeartbeats 4000000 in
theorem c_X6_book (l : Launch) (G : GT) (b : Nat → Nat) (y : MS) {sh : Int} (h1 : VT 99999 (y 0)) (h2 : VSM y) (h3 : inR sh) : CtI l G yX6_book cX6_book 4 (some .int) 6 [.ref (b 0), vI sh] (wsM G b y) (if nthR (y 5 sh) sh ≠ 0 then nthR (y 5 sh) sh else y 6 sh) (wsM G b (endM (if nthR (y 5 sh) sh = 0 then setc (thinkM y) 7 (bookP (y 7) (40 * sh) (y 5 sh) (y 0) (y 6 sh)) else y) (if nthR (y 5 sh) sh ≠ 0 then nthR (y 5 sh) sh else y 6 sh))) := by
  obtain ⟨-, v4⟩ : True ∧ (0 ≤ y 0 4 ∧ y 0 4 ≤ 8) := ⟨trivial, h1.2.2.2.2.1⟩
  unfold inR at h3
  have hbs : vSheet sh → vBits (y 5 sh) := fun q => (h2 sh q.1 q.2).1
  have hzs : vSheet sh → 0 ≤ y 6 sh ∧ y 6 sh ≤ 40 := fun q => ⟨(h2 sh q.1 q.2).2.1, (h2 sh q.1 q.2).2.2.1⟩
  have hnt := nth_in (y 5 sh) sh
  have hnv : nthR (y 5 sh) sh = 0 → vSheet sh ∧ y 5 sh ≠ 0 := by unfold nthR; omega
  refine CtI.of (by decide) (Nat.le_of_ble_eq_true rfl) ?_
  intro p e s m args below meth c A E hr
  refine jx_lv (lv' := [(0, .ref (b 0)), (1, vI sh)]) [0, 1] rfl ?_
  refine jx_aload_n E 0 dX6_book_0 rfl ?_
  refine jx_iload_n E 1 dX6_book_1 rfl ?_
  refine jx_callVi E [vI sh] [] (c_X6_notThere l G b y (sh := sh) (by unfold inR; omega) hbs) mb_X6_notThere mv_X6_notThere wl_X6_215 f_X6 wm_obj dX6_book_2 ?_
  refine jx_istore_n E dX6_book_5 (by decide) [(2, vI (nthR ((y 5) sh) sh)), (0, .ref (b 0)), (1, vI sh)] rfl ?_
  refine jx_iload_n E 0 dX6_book_6 rfl ?_
  refine jx_if_eq (tgt := 16) E dX6_book_7 (by decide) (fun c1 => ?_) (fun c1 => ?_)
  · skip
    have hvs := hnv (by omega)
    have hz := hzs hvs.1
    refine jx_aload_n E 1 dX6_book_16 rfl ?_
    refine jx_callVv E [] [] (c_X6_thinks l G b y  ) mb_X6_thinks mv_X6_thinks wl_X6_134 f_X6 wm_obj dX6_book_17 ?_
    refine jx_eq (ws' := wsM G b (setc (setc y 2 (y 0)) 0 (y 0))) (congrArg (wsM G b) (by first | rfl | (rw [setc_setc]; rfl) | exact setc_in _ _ _ _ (by decide) | exact setc_in2 _ _ _ _ _ (by decide) (by decide) | (simp only [setc_setc, setc_at]; done) | (simp only [setc_setc, setc_at]; rfl) | (funext d; simp only [setc_app]; (repeat' split) <;> first | rfl | omega))) ?_
    refine jx_iconst E dX6_book_20 ?_
    refine jx_istore_n E dX6_book_21 (by decide) [(3, vI 0), (2, vI (nthR ((y 5) sh) sh)), (0, .ref (b 0)), (1, vI sh)] rfl ?_
    have LP22 : ∀ (n2 : Nat) (k : Nat), ((k : Int) ≤ y 6 sh) → (y 6 sh - (k : Int) < n2) → JX p l e (rmL 6) s m args below meth c 4 G A 0 0 (QI below args s G A (if nthR (y 5 sh) sh ≠ 0 then nthR (y 5 sh) sh else y 6 sh) (wsM G b (endM (if nthR (y 5 sh) sh = 0 then setc (thinkM y) 7 (bookP (y 7) (40 * sh) (y 5 sh) (y 0) (y 6 sh)) else y) (if nthR (y 5 sh) sh ≠ 0 then nthR (y 5 sh) sh else y 6 sh)))) (wsM G b (setc (setc (setc y 2 (y 0)) 0 (daysP k (y 0))) 7 (bookP (y 7) (40 * sh) (y 5 sh) (y 0) (k : Int)))) 22 [(3, vI (k : Int)), (2, vI (nthR ((y 5) sh) sh)), (0, .ref (b 0)), (1, vI sh)] [] := by
      intro n2
      induction n2 with
      | zero => intro k q1 q2; exfalso; omega
      | succ n2 ih =>
        intro k q1 q2
        refine jx_iload_n E 0 dX6_book_22 rfl ?_
        refine jx_aload_n E 2 dX6_book_23 rfl ?_
        refine jx_get E f_X6 13 (v := .ref (b 7)) wm_obj (by decide) wf_X6_28 rfl dX6_book_24 ?_
        refine jx_iload_n E 3 dX6_book_27 rfl ?_
        refine jx_iald E (v := (y 6) sh) wm_size (row0_at (by omega) (by omega)) (by omega) (by omega) (by decide) dX6_book_28 ?_
        refine jx_icmp_ge (tgt := 69) E dX6_book_29 (by decide) (fun c2 => ?_) (fun c2 => ?_)
        · skip
          refine jx_aload_n E 2 dX6_book_69 rfl ?_
          refine jx_callVv E [] [] (c_X6_putsBack l G b (setc (setc (setc y 2 (y 0)) 0 (daysP k (y 0))) 7 (bookP (y 7) (40 * sh) (y 5 sh) (y 0) (k : Int)))  ) mb_X6_putsBack mv_X6_putsBack wl_X6_137 f_X6 wm_obj dX6_book_70 ?_
          refine jx_eq (ws' := wsM G b (setc (setc (setc y 2 (y 0)) 0 (y 0)) 7 (bookP (y 7) (40 * sh) (y 5 sh) (y 0) (k : Int)))) (congrArg (wsM G b) (by first | rfl | (rw [setc_setc]; rfl) | exact setc_in _ _ _ _ (by decide) | exact setc_in2 _ _ _ _ _ (by decide) (by decide) | (simp only [setc_setc, setc_at]; done) | (simp only [setc_setc, setc_at]; rfl) | (funext d; simp only [setc_app]; (repeat' split) <;> first | rfl | omega))) ?_
          refine jx_aload_n E 2 dX6_book_73 rfl ?_
          refine jx_get E f_X6 13 (v := .ref (b 7)) wm_obj (by decide) wf_X6_28 rfl dX6_book_74 ?_
          refine jx_iload_n E 3 dX6_book_77 rfl ?_
          refine jx_iald E (v := (y 6) sh) wm_size (row0_at (by omega) (by omega)) (by omega) (by omega) (by decide) dX6_book_78 ?_
          exact jx_iret E hr dX6_book_79 (by rw [if_neg (by omega)]) (by rw [if_neg (show ¬ nthR (y 5 sh) sh ≠ 0 by omega), if_pos (show nthR (y 5 sh) sh = 0 by omega), endM_n (by omega), show (k : Int) = y 6 sh by omega]; rfl)
        · skip
          have hT1 := (VT_days h1 k).2.1
          refine jx_aload_n E 2 dX6_book_32 rfl ?_
          refine jx_get E f_X6 14 (v := .ref (b 8)) wm_obj (by decide) wf_X6_31 rfl dX6_book_33 ?_
          refine jx_bipush E dX6_book_36 ?_
          refine jx_iload_n E 3 dX6_book_38 rfl ?_
          refine jx_imul E dX6_book_39 ?_
          refine jx_iload_n E 0 dX6_book_40 rfl ?_
          refine jx_iadd E dX6_book_41 ?_
          refine jx_aload_n E 2 dX6_book_42 rfl ?_
          refine jx_get E f_X6 12 (v := .ref (b 6)) wm_obj (by decide) wf_X6_25 rfl dX6_book_43 ?_
          refine jx_iload_n E 3 dX6_book_46 rfl ?_
          refine jx_iald E (v := (y 5) sh) wm_bits (row0_at (by omega) (by omega)) (by omega) (by omega) (by decide) dX6_book_47 ?_
          refine jx_aload_n E 2 dX6_book_48 rfl ?_
          refine jx_get E f_X6 0 (v := .ref (b 1)) wm_obj (by decide) wf_X6_9 rfl dX6_book_49 ?_
          refine jx_iconst E dX6_book_52 ?_
          refine jx_iald E (v := (daysP k (y 0)) 1) wm_m (row0_at (by omega) (by omega)) (by omega) (by omega) (by decide) dX6_book_53 ?_
          refine jx_i2l E dX6_book_54 ?_
          refine jx_callSl E [vI ((y 5) sh), vL ((daysP k (y 0)) 1)] [vI ((40 * sh) + (k : Int)), .ref (b 8)] (c_X6_cutTo l G (wsM G b (setc (setc (setc y 2 (y 0)) 0 (daysP k (y 0))) 7 (bookP (y 7) (40 * sh) (y 5 sh) (y 0) (k : Int)))) (q := (y 5) sh) (v := (daysP k (y 0)) 1) (by have := hbs (by omega); unfold inR; omega) (inL_small (by omega))) mb_X6_cutTo ms_X6_cutTo wl_X6_218 dX6_book_55 ?_
          refine jx_st (st' := [vL (cutP ((y 5) sh) ((daysP k (y 0)) 1)), vI ((40 * sh) + (k : Int)), .ref (b 8)]) (by first | rfl | (simp only [setc_at]; done) | (simp only [setc_at]; rfl)) ?_
          refine jx_last E wm_cells (wq_cells (by omega) (by omega)) (by omega) (by omega) (by decide) dX6_book_58 ?_
          refine jx_eq (ws' := wsM G b (setc (setc (setc y 2 (y 0)) 0 (daysP k (y 0))) 7 (updI (bookP (y 7) (40 * sh) (y 5 sh) (y 0) (k : Int)) ((40 * sh) + (k : Int)) (cutP ((y 5) sh) ((daysP k (y 0)) 1))))) (congrArg (wsM G b) (by first | rfl | (rw [setc_setc]; rfl) | exact setc_in _ _ _ _ (by decide) | exact setc_in2 _ _ _ _ _ (by decide) (by decide) | (simp only [setc_setc, setc_at]; done) | (simp only [setc_setc, setc_at]; rfl) | (funext d; simp only [setc_app]; (repeat' split) <;> first | rfl | omega))) ?_
          refine jx_aload_n E 2 dX6_book_59 rfl ?_
          refine jx_callVv E [] [] (c_X6_goes l G b (setc (setc (setc y 2 (y 0)) 0 (daysP k (y 0))) 7 (updI (bookP (y 7) (40 * sh) (y 5 sh) (y 0) (k : Int)) ((40 * sh) + (k : Int)) (cutP ((y 5) sh) ((daysP k (y 0)) 1))))  (VT_up (VT_days h1 k) (by omega))) mb_X6_goes mv_X6_goes wl_X6_122 f_X6 wm_obj dX6_book_60 ?_
          refine jx_eq (ws' := wsM G b (setc (setc (setc y 2 (y 0)) 0 (dayP (daysP k (y 0)))) 7 (updI (bookP (y 7) (40 * sh) (y 5 sh) (y 0) (k : Int)) ((40 * sh) + (k : Int)) (cutP ((y 5) sh) ((daysP k (y 0)) 1))))) (congrArg (wsM G b) (by first | rfl | (rw [setc_setc]; rfl) | exact setc_in _ _ _ _ (by decide) | exact setc_in2 _ _ _ _ _ (by decide) (by decide) | (simp only [setc_setc, setc_at]; done) | (simp only [setc_setc, setc_at]; rfl) | (funext d; simp only [setc_app]; (repeat' split) <;> first | rfl | omega))) ?_
          refine jx_iinc E 0 dX6_book_63 rfl (by decide) [(3, vI ((k : Int) + 1)), (2, vI (nthR ((y 5) sh) sh)), (0, .ref (b 0)), (1, vI sh)] rfl ?_
          refine jx_goto (tgt := 22) E dX6_book_66 (by decide) ?_
          rw [book_1]
          exact ih (k + 1) (by omega) (by omega)
    refine jx_eq (ws' := wsM G b (setc (setc (setc y 2 (y 0)) 0 (daysP 0 (y 0))) 7 (bookP (y 7) (40 * sh) (y 5 sh) (y 0) ((0 : Nat) : Int)))) (by rw [show ((0 : Nat) : Int) = 0 from rfl, book_0]; exact congrArg (wsM G b) (setc_self (setc (setc y 2 (y 0)) 0 (y 0)) 7).symm) ?_
    exact LP22 41 0 (by omega) (by omega)
  · skip
    refine jx_aload_n E 1 dX6_book_10 rfl ?_
    refine jx_iload_n E 0 dX6_book_11 rfl ?_
    refine jx_callVi E [vI (nthR ((y 5) sh) sh)] [] (c_X6_finds l G b y (f := nthR ((y 5) sh) sh) (by omega)) mb_X6_finds mv_X6_finds wl_X6_37 f_X6 wm_obj dX6_book_12 ?_
    exact jx_iret E hr dX6_book_15 (by rw [if_pos (by omega)]) (by rw [if_pos (show nthR (y 5 sh) sh ≠ 0 by omega), if_neg (show ¬ nthR (y 5 sh) sh = 0 by omega), endM_f (by omega)])
set_option maxHeartbeats 4000000 in
theorem c_X6_isBook (l : Launch) (G : GT) (b : Nat → Nat) (y : MS) {sh : Int} (h1 : VT 1000000 (y 0)) (h2 : 0 ≤ sh ∧ sh ≤ 3) (h3 : VS (y 5 sh) (y 6 sh) (shM y sh)) : CtI l G yX6_isBook cX6_isBook 4 (some .boolean) 6 [.ref (b 0), vI sh] (wsM G b y) (bkF (fun k => (y 7) (40 * sh + k)) (y 0) ((y 6) sh).toNat) (wsM G b (setc y 0 (y 2))) := by
  obtain ⟨z1, z2, z3, z4, z5⟩ := id h3
  refine CtI.of (by decide) (Nat.le_of_ble_eq_true rfl) ?_
  intro p e s m args below meth c A E hr
  refine jx_lv (lv' := [(0, .ref (b 0)), (1, vI sh)]) [0, 1] rfl ?_
  refine jx_iconst E dX6_isBook_0 ?_
  refine jx_istore_n E dX6_isBook_1 (by decide) [(2, vI 1), (0, .ref (b 0)), (1, vI sh)] rfl ?_
  refine jx_iconst E dX6_isBook_2 ?_
  refine jx_istore_n E dX6_isBook_3 (by decide) [(3, vI 0), (2, vI 1), (0, .ref (b 0)), (1, vI sh)] rfl ?_
  have LP4 : ∀ (n2 : Nat) (k : Nat) (fl : Int), ((k : Int) ≤ y 6 sh) → (y 6 sh - (k : Int) < n2) → (fl = bkF (shM y sh) (y 0) k) → JX p l e (rmL 6) s m args below meth c 4 G A 0 0 (QI below args s G A (bkF (fun k => (y 7) (40 * sh + k)) (y 0) ((y 6) sh).toNat) (wsM G b (setc y 0 (y 2)))) (wsM G b (setc y 0 (daysP k (y 0)))) 4 [(3, vI (k : Int)), (2, vI fl), (0, .ref (b 0)), (1, vI sh)] [] := by
    intro n2
    induction n2 with
    | zero => intro k fl q1 q2 hfl; exfalso; omega
    | succ n2 ih =>
      intro k fl q1 q2 hfl
      have hfi := bk_in (shM y sh) (y 0) k
      have hz9 : bkF (shM y sh) (y 0) k = 0 → bkF (shM y sh) (y 0) (y 6 sh).toNat = 0 := fun q => bk_0 q _ (by omega)
      refine jx_iload_n E 0 dX6_isBook_4 rfl ?_
      refine jx_aload_n E 2 dX6_isBook_5 rfl ?_
      refine jx_get E f_X6 13 (v := .ref (b 7)) wm_obj (by decide) wf_X6_28 rfl dX6_isBook_6 ?_
      refine jx_iload_n E 3 dX6_isBook_9 rfl ?_
      refine jx_iald E (v := (y 6) sh) wm_size (row0_at (by omega) (by omega)) (by omega) (by omega) (by decide) dX6_isBook_10 ?_
      refine jx_icmp_ge (tgt := 56) E dX6_isBook_11 (by decide) (fun c1 => ?_) (fun c1 => ?_)
      · skip
        refine jx_aload_n E 2 dX6_isBook_56 rfl ?_
        refine jx_callVv E [] [] (c_X6_putsBack l G b (setc y 0 (daysP k (y 0)))  ) mb_X6_putsBack mv_X6_putsBack wl_X6_137 f_X6 wm_obj dX6_isBook_57 ?_
        refine jx_eq (ws' := wsM G b (setc y 0 (y 2))) (congrArg (wsM G b) (by first | rfl | (rw [setc_setc]; rfl) | exact setc_in _ _ _ _ (by decide) | exact setc_in2 _ _ _ _ _ (by decide) (by decide) | (simp only [setc_setc, setc_at]; done) | (simp only [setc_setc, setc_at]; rfl) | (funext d; simp only [setc_app]; (repeat' split) <;> first | rfl | omega))) ?_
        refine jx_iload_n E 1 dX6_isBook_60 rfl ?_
        exact jx_zret E hr dX6_isBook_61 (by show fl = bkF (shM y sh) (y 0) (y 6 sh).toNat; rcases Decidable.em (k = (y 6 sh).toNat) with e | e; rw [hfl, e]; rw [hz9 (by omega)]; omega) (by first | rfl | (congr 1; done)) (by first | exact Or.inl rfl | exact Or.inr rfl | omega)
      · skip
        refine jx_iload_n E 1 dX6_isBook_14 rfl ?_
        refine jx_if_eq (tgt := 56) E dX6_isBook_15 (by decide) (fun c2 => ?_) (fun c2 => ?_)
        · skip
          refine jx_aload_n E 2 dX6_isBook_56 rfl ?_
          refine jx_callVv E [] [] (c_X6_putsBack l G b (setc y 0 (daysP k (y 0)))  ) mb_X6_putsBack mv_X6_putsBack wl_X6_137 f_X6 wm_obj dX6_isBook_57 ?_
          refine jx_eq (ws' := wsM G b (setc y 0 (y 2))) (congrArg (wsM G b) (by first | rfl | (rw [setc_setc]; rfl) | exact setc_in _ _ _ _ (by decide) | exact setc_in2 _ _ _ _ _ (by decide) (by decide) | (simp only [setc_setc, setc_at]; done) | (simp only [setc_setc, setc_at]; rfl) | (funext d; simp only [setc_app]; (repeat' split) <;> first | rfl | omega))) ?_
          refine jx_iload_n E 1 dX6_isBook_60 rfl ?_
          exact jx_zret E hr dX6_isBook_61 (by show fl = bkF (shM y sh) (y 0) (y 6 sh).toNat; rcases Decidable.em (k = (y 6 sh).toNat) with e | e; rw [hfl, e]; rw [hz9 (by omega)]; omega) (by first | rfl | (congr 1; done)) (by first | exact Or.inl rfl | exact Or.inr rfl | omega)
        · skip
          have hT1 := (VT_days h1 k).2.1
          have hL : inL (y 7 (40 * sh + (k : Int))) := z5 k (by omega) (by omega)
          unfold inL at hL
          refine jx_aload_n E 2 dX6_isBook_18 rfl ?_
          refine jx_get E f_X6 14 (v := .ref (b 8)) wm_obj (by decide) wf_X6_31 rfl dX6_isBook_19 ?_
          refine jx_bipush E dX6_isBook_22 ?_
          refine jx_iload_n E 3 dX6_isBook_24 rfl ?_
          refine jx_imul E dX6_isBook_25 ?_
          refine jx_iload_n E 0 dX6_isBook_26 rfl ?_
          refine jx_iadd E dX6_isBook_27 ?_
          refine jx_lald E (v := (y 7) ((40 * sh) + (k : Int))) wm_cells (row0L_at (by omega) (by omega)) (by omega) (by omega) (by decide) dX6_isBook_28 ?_
          refine jx_aload_n E 2 dX6_isBook_29 rfl ?_
          refine jx_get E f_X6 0 (v := .ref (b 1)) wm_obj (by decide) wf_X6_9 rfl dX6_isBook_30 ?_
          refine jx_iconst E dX6_isBook_33 ?_
          refine jx_iald E (v := (daysP k (y 0)) 1) wm_m (row0_at (by omega) (by omega)) (by omega) (by omega) (by decide) dX6_isBook_34 ?_
          refine jx_i2l E dX6_isBook_35 ?_
          refine jx_lcmp_ne (tgt := 44) E dX6_isBook_36 dX6_isBook_37 (by decide) (fun c3 => ?_) (fun c3 => ?_)
          · skip
            refine jx_iconst E dX6_isBook_44 ?_
            refine jx_istore_n E dX6_isBook_45 (by decide) [(2, vI 0), (3, vI (k : Int)), (0, .ref (b 0)), (1, vI sh)] rfl ?_
            refine jx_aload_n E 2 dX6_isBook_46 rfl ?_
            refine jx_callVv E [] [] (c_X6_goes l G b (setc y 0 (daysP k (y 0)))  (VT_up (VT_days h1 k) (by omega))) mb_X6_goes mv_X6_goes wl_X6_122 f_X6 wm_obj dX6_isBook_47 ?_
            refine jx_eq (ws' := wsM G b (setc y 0 (dayP (daysP k (y 0))))) (congrArg (wsM G b) (by first | rfl | (rw [setc_setc]; rfl) | exact setc_in _ _ _ _ (by decide) | exact setc_in2 _ _ _ _ _ (by decide) (by decide) | (simp only [setc_setc, setc_at]; done) | (simp only [setc_setc, setc_at]; rfl) | (funext d; simp only [setc_app]; (repeat' split) <;> first | rfl | omega))) ?_
            refine jx_iinc E 1 dX6_isBook_50 rfl (by decide) [(3, vI ((k : Int) + 1)), (2, vI 0), (0, .ref (b 0)), (1, vI sh)] rfl ?_
            refine jx_goto (tgt := 4) E dX6_isBook_53 (by decide) ?_
            exact ih (k + 1) _ (by omega) (by omega) (by simp only [bkF]; unfold shM; have : bkF (shM y sh) (y 0) k = 1 := (by omega); unfold shM at this; rw [this]; omega)
          · skip
            refine jx_iconst E dX6_isBook_40 ?_
            refine jx_goto (tgt := 45) E dX6_isBook_41 (by decide) ?_
            refine jx_istore_n E dX6_isBook_45 (by decide) [(2, vI 1), (3, vI (k : Int)), (0, .ref (b 0)), (1, vI sh)] rfl ?_
            refine jx_aload_n E 2 dX6_isBook_46 rfl ?_
            refine jx_callVv E [] [] (c_X6_goes l G b (setc y 0 (daysP k (y 0)))  (VT_up (VT_days h1 k) (by omega))) mb_X6_goes mv_X6_goes wl_X6_122 f_X6 wm_obj dX6_isBook_47 ?_
            refine jx_eq (ws' := wsM G b (setc y 0 (dayP (daysP k (y 0))))) (congrArg (wsM G b) (by first | rfl | (rw [setc_setc]; rfl) | exact setc_in _ _ _ _ (by decide) | exact setc_in2 _ _ _ _ _ (by decide) (by decide) | (simp only [setc_setc, setc_at]; done) | (simp only [setc_setc, setc_at]; rfl) | (funext d; simp only [setc_app]; (repeat' split) <;> first | rfl | omega))) ?_
            refine jx_iinc E 1 dX6_isBook_50 rfl (by decide) [(3, vI ((k : Int) + 1)), (2, vI 1), (0, .ref (b 0)), (1, vI sh)] rfl ?_
            refine jx_goto (tgt := 4) E dX6_isBook_53 (by decide) ?_
            exact ih (k + 1) _ (by omega) (by omega) (by simp only [bkF]; unfold shM; have : bkF (shM y sh) (y 0) k = 1 := (by omega); unfold shM at this; rw [this]; omega)
  refine jx_eq (ws' := wsM G b (setc y 0 (daysP 0 (y 0)))) (congrArg (wsM G b) (setc_self y 0).symm) ?_
  exact LP4 41 0 _ (by omega) (by omega) rfl
