/-! 54.t2: laid by the walker out of specT2 -/
theorem rd_ext {w s T : Int → Int} (h2 : T 2 = toP w (s 1) (bgP w (s 1) (s 4))) (h3 : T 3 = bgP w (s 1) (s 4)) (h4 : T 4 = enP w (s 1) (bgP w (s 1) (s 4))) (h5 : T 5 = vaP w (s 1) (bgP w (s 1) (s 4))) (ho : ∀ k, k ≠ 2 → k ≠ 3 → k ≠ 4 → k ≠ 5 → T k = s k) : T = rdM w s := by
  funext k
  simp only [rdM]
  by_cases k2 : k = 2
  · rw [if_pos k2, k2]; exact h2
  rw [if_neg k2]
  by_cases k3 : k = 3
  · rw [if_pos k3, k3]; exact h3
  rw [if_neg k3]
  by_cases k4 : k = 4
  · rw [if_pos k4, k4]; exact h4
  rw [if_neg k4]
  by_cases k5 : k = 5
  · rw [if_pos k5, k5]; exact h5
  rw [if_neg k5]
  exact ho k k2 k3 k4 k5
theorem upd_self (f : Int → Int) (k : Int) : updI f k (f k) = f := by funext q; simp only [updI_app]; split <;> simp_all
theorem pa_no {w s : Int → Int} {i : Int} (h : paO s i ≠ 1) : paM w s i = s := by
  unfold paO at h
  unfold paM
  rw [if_neg (fun q => h (if_pos q))]
theorem pa_y {w s : Int → Int} {i : Int} (h : paO s i = 1) : paM w s i = rdM w s := by
  unfold paO at h
  unfold paM
  rw [if_pos (by omega)]
set_option maxHeartbeats 4000000 in
theorem c_X6_isName (l : Launch) (G : GT) (b : Nat → Nat) (y : MS) {wd z : Int} (h1 : 0 ≤ wd ∧ wd < 13) (h2 : 0 ≤ z ∧ z ≤ 120) (h3 : 0 ≤ y 8 1 ∧ y 8 1 ≤ 120) (h4 : y 8 3 + z ≤ y 8 1 ∧ 0 ≤ y 8 3) (h5 : ∀ k, 0 ≤ k → k < y 8 1 → 0 ≤ y 4 k ∧ y 4 k ≤ 255) : CtI l G yX6_isName cX6_isName 5 (some .boolean) 1 [.ref (b 0), vI wd, vI z] (wsM G b y) (naP (y 4) ((y 8) 3) z wd.toNat) (wsM G b y) := by
  have hT := h5
  refine CtI.of (by decide) (Nat.le_of_ble_eq_true rfl) ?_
  intro p e s m args below meth c A E hr
  refine jx_lv (lv' := [(0, .ref (b 0)), (1, vI wd), (2, vI z)]) [0, 1, 2] rfl ?_
  have JN30 : ∀ (u : Int), (u = if z ≤ 7 ∧ (z = 7 ∨ nm_row.getD (7 * wd.toNat + z.toNat) 0 = 0) then 1 else 0) → JX p l e (rmL 1) s m args below meth c 5 G A 0 0 (QI below args s G A (naP (y 4) ((y 8) 3) z wd.toNat) (wsM G b y)) (wsM G b y) 30 [(0, .ref (b 0)), (1, vI wd), (2, vI z)] [vI u] := by
    intro u hu
    refine jx_istore_n E dX6_isName_30 (by decide) [(3, vI u), (0, .ref (b 0)), (1, vI wd), (2, vI z)] rfl ?_
    refine jx_iconst E dX6_isName_31 ?_
    refine jx_istore E dX6_isName_32 (by decide) [(4, vI 0), (3, vI u), (0, .ref (b 0)), (1, vI wd), (2, vI z)] rfl ?_
    have LP34 : ∀ (n2 : Nat) (k : Nat) (fl : Int), ((k : Int) ≤ z) → (z - (k : Int) < n2) → (fl = if u = 1 then eqF (y 4) (y 8 3) wd.toNat k else 0) → (u = 1 → z ≤ 7) → JX p l e (rmL 1) s m args below meth c 5 G A 0 0 (QI below args s G A (naP (y 4) ((y 8) 3) z wd.toNat) (wsM G b y)) (wsM G b y) 34 [(4, vI (k : Int)), (3, vI fl), (0, .ref (b 0)), (1, vI wd), (2, vI z)] [] := by
      intro n2
      induction n2 with
      | zero => intro k fl q1 q2 hfl q4; exfalso; omega
      | succ n2 ih =>
        intro k fl q1 q2 hfl q4
        have hei := eq_in (y 4) (y 8 3) wd.toNat k
        refine jx_iload E 0 dX6_isName_34 rfl ?_
        refine jx_iload_n E 4 dX6_isName_36 rfl ?_
        refine jx_icmp_ge (tgt := 82) E dX6_isName_37 (by decide) (fun c1 => ?_) (fun c1 => ?_)
        · skip
          refine jx_iload_n E 1 dX6_isName_82 rfl ?_
          exact jx_zret E hr dX6_isName_83 (by unfold naP; have he0 : eqF (y 4) (y 8 3) wd.toNat k = 0 → eqF (y 4) (y 8 3) wd.toNat z.toNat = 0 := (fun q => eq_0 q _ (by omega)); have hez : (k : Int) = z → eqF (y 4) (y 8 3) wd.toNat k = eqF (y 4) (y 8 3) wd.toNat z.toNat := (fun q => by rw [show z.toNat = k by omega]); have hei2 := eq_in (y 4) (y 8 3) wd.toNat z.toNat; omega) (by first | rfl | (congr 1; done)) (by first | exact Or.inl rfl | exact Or.inr rfl | omega)
        · skip
          refine jx_iload_n E 1 dX6_isName_40 rfl ?_
          refine jx_if_eq (tgt := 82) E dX6_isName_41 (by decide) (fun c2 => ?_) (fun c2 => ?_)
          · skip
            refine jx_iload_n E 1 dX6_isName_82 rfl ?_
            exact jx_zret E hr dX6_isName_83 (by unfold naP; have he0 : eqF (y 4) (y 8 3) wd.toNat k = 0 → eqF (y 4) (y 8 3) wd.toNat z.toNat = 0 := (fun q => eq_0 q _ (by omega)); have hez : (k : Int) = z → eqF (y 4) (y 8 3) wd.toNat k = eqF (y 4) (y 8 3) wd.toNat z.toNat := (fun q => by rw [show z.toNat = k by omega]); have hei2 := eq_in (y 4) (y 8 3) wd.toNat z.toNat; omega) (by first | rfl | (congr 1; done)) (by first | exact Or.inl rfl | exact Or.inr rfl | omega)
          · skip
            have hz7 := q4 (by omega)
            have hix : nm_row.getD ((7 * wd + (k : Int))).toNat 0 = nm_row.getD (7 * wd.toNat + k) 0 := by rw [show (7 * wd + (k : Int)).toNat = 7 * wd.toNat + k by omega]
            have hni := nm_in (7 * wd.toNat + k) (by omega)
            have hwk := hT (y 8 3 + (k : Int)) (by omega) (by omega)
            refine jx_getsnm E wf_X6_157 dX6_isName_44 ?_
            refine jx_bipush E dX6_isName_47 ?_
            refine jx_iload_n E 3 dX6_isName_49 rfl ?_
            refine jx_imul E dX6_isName_50 ?_
            refine jx_iload E 0 dX6_isName_51 rfl ?_
            refine jx_iadd E dX6_isName_53 ?_
            refine jx_tnm E (v := nm_row.getD ((7 * wd) + (k : Int)).toNat 0) (by first | rfl | decide) (by omega) (by omega) dX6_isName_54 ?_
            refine jx_aload_n E 2 dX6_isName_55 rfl ?_
            refine jx_get E f_X6 5 (v := .ref (b 5)) wm_obj (by decide) wf_X6_22 rfl dX6_isName_56 ?_
            refine jx_aload_n E 2 dX6_isName_59 rfl ?_
            refine jx_get E f_X6 8 (v := vI ((y 8) 3)) wm_obj (by decide) wf_X6_160 rfl dX6_isName_60 ?_
            refine jx_iload E 0 dX6_isName_63 rfl ?_
            refine jx_iadd E dX6_isName_65 ?_
            refine jx_iald E (v := (y 4) (((y 8) 3) + (k : Int))) wm_tape (row0_at (by omega) (by omega)) (by omega) (by omega) (by decide) dX6_isName_66 ?_
            refine jx_icmp_ne (tgt := 74) E dX6_isName_67 (by decide) (fun c3 => ?_) (fun c3 => ?_)
            · skip
              refine jx_iconst E dX6_isName_74 ?_
              refine jx_istore_n E dX6_isName_75 (by decide) [(3, vI 0), (4, vI (k : Int)), (0, .ref (b 0)), (1, vI wd), (2, vI z)] rfl ?_
              refine jx_iinc E 1 dX6_isName_76 rfl (by decide) [(4, vI ((k : Int) + 1)), (3, vI 0), (0, .ref (b 0)), (1, vI wd), (2, vI z)] rfl ?_
              refine jx_goto (tgt := 34) E dX6_isName_79 (by decide) ?_
              exact ih (k + 1) _ (by omega) (by omega) (by have hu1 : u = 1 := (by omega); have he1 : eqF (y 4) (y 8 3) wd.toNat k = 1 := (by omega); simp only [eqF]; rw [if_pos hu1]; first | (rw [if_pos ⟨he1, by omega⟩]) | (rw [if_neg (by omega)])) q4
            · skip
              refine jx_iconst E dX6_isName_70 ?_
              refine jx_goto (tgt := 75) E dX6_isName_71 (by decide) ?_
              refine jx_istore_n E dX6_isName_75 (by decide) [(3, vI 1), (4, vI (k : Int)), (0, .ref (b 0)), (1, vI wd), (2, vI z)] rfl ?_
              refine jx_iinc E 1 dX6_isName_76 rfl (by decide) [(4, vI ((k : Int) + 1)), (3, vI 1), (0, .ref (b 0)), (1, vI wd), (2, vI z)] rfl ?_
              refine jx_goto (tgt := 34) E dX6_isName_79 (by decide) ?_
              exact ih (k + 1) _ (by omega) (by omega) (by have hu1 : u = 1 := (by omega); have he1 : eqF (y 4) (y 8 3) wd.toNat k = 1 := (by omega); simp only [eqF]; rw [if_pos hu1]; first | (rw [if_pos ⟨he1, by omega⟩]) | (rw [if_neg (by omega)])) q4
    exact LP34 121 0 u (by omega) (by omega) (by show u = if u = 1 then 1 else 0; split <;> omega) (by omega)
  refine jx_iload_n E 2 dX6_isName_0 rfl ?_
  refine jx_bipush E dX6_isName_1 ?_
  refine jx_icmp_gt (tgt := 29) E dX6_isName_3 (by decide) (fun c4 => ?_) (fun c4 => ?_)
  · skip
    refine jx_iconst E dX6_isName_29 ?_
    exact JN30 _ (by first | omega | (rw [if_pos (by omega)]) | (rw [if_neg (by omega)]))
  · skip
    refine jx_iload_n E 2 dX6_isName_6 rfl ?_
    refine jx_bipush E dX6_isName_7 ?_
    refine jx_icmp_eq (tgt := 25) E dX6_isName_9 (by decide) (fun c5 => ?_) (fun c5 => ?_)
    · skip
      refine jx_iconst E dX6_isName_25 ?_
      refine jx_goto (tgt := 30) E dX6_isName_26 (by decide) ?_
      exact JN30 _ (by first | omega | (rw [if_pos (by omega)]) | (rw [if_neg (by omega)]))
    · skip
      have hix : nm_row.getD ((7 * wd + z)).toNat 0 = nm_row.getD (7 * wd.toNat + z.toNat) 0 := by rw [show (7 * wd + z).toNat = 7 * wd.toNat + z.toNat by omega]
      have hni := nm_in (7 * wd.toNat + z.toNat) (by omega)
      refine jx_getsnm E wf_X6_157 dX6_isName_12 ?_
      refine jx_bipush E dX6_isName_15 ?_
      refine jx_iload_n E 1 dX6_isName_17 rfl ?_
      refine jx_imul E dX6_isName_18 ?_
      refine jx_iload_n E 2 dX6_isName_19 rfl ?_
      refine jx_iadd E dX6_isName_20 ?_
      refine jx_tnm E (v := nm_row.getD ((7 * wd) + z).toNat 0) (by first | rfl | decide) (by omega) (by omega) dX6_isName_21 ?_
      refine jx_if_ne (tgt := 29) E dX6_isName_22 (by decide) (fun c6 => ?_) (fun c6 => ?_)
      · skip
        refine jx_iconst E dX6_isName_29 ?_
        exact JN30 _ (by first | omega | (rw [if_pos (by omega)]) | (rw [if_neg (by omega)]))
      · skip
        refine jx_iconst E dX6_isName_25 ?_
        refine jx_goto (tgt := 30) E dX6_isName_26 (by decide) ?_
        exact JN30 _ (by first | omega | (rw [if_pos (by omega)]) | (rw [if_neg (by omega)]))
set_option maxHeartbeats 4000000 in
theorem c_X6_wordHere (l : Launch) (G : GT) (b : Nat → Nat) (y : MS) (h1 : 0 ≤ y 8 1 ∧ y 8 1 ≤ 120) (h2 : 0 ≤ y 8 3 ∧ y 8 3 ≤ y 8 4 ∧ y 8 4 ≤ y 8 1) (h3 : ∀ k, 0 ≤ k → k < y 8 1 → 0 ≤ y 4 k ∧ y 4 k ≤ 255) : CtI l G yX6_wordHere cX6_wordHere 2 (some .int) 2 [.ref (b 0)] (wsM G b y) (wdP (y 4) ((y 8) 3) ((y 8) 4 - (y 8) 3)) (wsM G b y) := by
  refine CtI.of (by decide) (Nat.le_of_ble_eq_true rfl) ?_
  intro p e s m args below meth c A E hr
  refine jx_lv (lv' := [(0, .ref (b 0))]) [0] rfl ?_
  refine jx_iconst E dX6_wordHere_0 ?_
  refine jx_istore_n E dX6_wordHere_1 (by decide) [(1, vI 0), (0, .ref (b 0))] rfl ?_
  have LP2 : ∀ (n2 : Nat) (k : Nat), (k ≤ 13) → (13 - (k : Int) < n2) → (wdF (y 4) (y 8 3) (y 8 4 - y 8 3) (13 - k) = wdP (y 4) (y 8 3) (y 8 4 - y 8 3)) → JX p l e (rmL 2) s m args below meth c 2 G A 0 0 (QI below args s G A (wdP (y 4) ((y 8) 3) ((y 8) 4 - (y 8) 3)) (wsM G b y)) (wsM G b y) 2 [(1, vI (k : Int)), (0, .ref (b 0))] [] := by
    intro n2
    induction n2 with
    | zero => intro k q1 q2 q3; exfalso; omega
    | succ n2 ih =>
      intro k q1 q2 q3
      have hk9 : k < 13 → wdF (y 4) (y 8 3) (y 8 4 - y 8 3) (13 - k) = if naP (y 4) (y 8 3) (y 8 4 - y 8 3) k = 1 then (k : Int) else wdF (y 4) (y 8 3) (y 8 4 - y 8 3) (13 - (k + 1)) := fun q => by
        rw [show 13 - k = (13 - (k + 1)) + 1 by omega]
        simp only [wdF]
        rw [show 12 - (13 - (k + 1)) = k by omega]
      refine jx_iload_n E 0 dX6_wordHere_2 rfl ?_
      refine jx_bipush E dX6_wordHere_3 ?_
      refine jx_icmp_ge (tgt := 31) E dX6_wordHere_5 (by decide) (fun c1 => ?_) (fun c1 => ?_)
      · skip
        refine jx_iload_n E 0 dX6_wordHere_31 rfl ?_
        refine jx_bipush E dX6_wordHere_32 ?_
        refine jx_icmp_ge (tgt := 41) E dX6_wordHere_34 (by decide) (fun c2 => ?_) (fun c2 => ?_)
        · skip
          refine jx_bipush E dX6_wordHere_41 ?_
          exact jx_iret E hr dX6_wordHere_43 (by first | (exfalso; omega) | skip; rw [← q3]; first | (have hh : naP (y 4) (y 8 3) (y 8 4 - y 8 3) k = 1 := (by have : naP (y 4) (y 8 3) (y 8 4 - y 8 3) ((k : Int)).toNat = naP (y 4) (y 8 3) (y 8 4 - y 8 3) k := rfl; omega); rw [hk9 (by omega), if_pos hh]) | (rw [show 13 - k = 0 by omega]; rfl) | (exfalso; omega)) (by first | rfl | (congr 1; done))
        · skip
          refine jx_iload_n E 0 dX6_wordHere_37 rfl ?_
          refine jx_goto (tgt := 43) E dX6_wordHere_38 (by decide) ?_
          exact jx_iret E hr dX6_wordHere_43 (by first | (exfalso; omega) | skip; rw [← q3]; first | (have hh : naP (y 4) (y 8 3) (y 8 4 - y 8 3) k = 1 := (by have : naP (y 4) (y 8 3) (y 8 4 - y 8 3) ((k : Int)).toNat = naP (y 4) (y 8 3) (y 8 4 - y 8 3) k := rfl; omega); rw [hk9 (by omega), if_pos hh]) | (rw [show 13 - k = 0 by omega]; rfl) | (exfalso; omega)) (by first | rfl | (congr 1; done))
      · skip
        refine jx_aload_n E 1 dX6_wordHere_8 rfl ?_
        refine jx_iload_n E 0 dX6_wordHere_9 rfl ?_
        refine jx_aload_n E 1 dX6_wordHere_10 rfl ?_
        refine jx_get E f_X6 9 (v := vI ((y 8) 4)) wm_obj (by decide) wf_X6_163 rfl dX6_wordHere_11 ?_
        refine jx_aload_n E 1 dX6_wordHere_14 rfl ?_
        refine jx_get E f_X6 8 (v := vI ((y 8) 3)) wm_obj (by decide) wf_X6_160 rfl dX6_wordHere_15 ?_
        refine jx_isub E dX6_wordHere_18 ?_
        refine jx_callVi E [vI (k : Int), vI (((y 8) 4) - ((y 8) 3))] [] (c_X6_isName l G b y (wd := (k : Int)) (z := ((y 8) 4) - ((y 8) 3)) (by omega) (by omega) h1 (by omega) h3) mb_X6_isName mv_X6_isName wl_X6_166 f_X6 wm_obj dX6_wordHere_19 ?_
        have hnk := na_in (y 4) (y 8 3) (y 8 4 - y 8 3) ((k : Int)).toNat
        refine jx_if_ne (tgt := 31) E dX6_wordHere_22 (by decide) (fun c3 => ?_) (fun c3 => ?_)
        · skip
          refine jx_iload_n E 0 dX6_wordHere_31 rfl ?_
          refine jx_bipush E dX6_wordHere_32 ?_
          refine jx_icmp_ge (tgt := 41) E dX6_wordHere_34 (by decide) (fun c4 => ?_) (fun c4 => ?_)
          · skip
            refine jx_bipush E dX6_wordHere_41 ?_
            exact jx_iret E hr dX6_wordHere_43 (by first | (exfalso; omega) | skip; rw [← q3]; first | (have hh : naP (y 4) (y 8 3) (y 8 4 - y 8 3) k = 1 := (by have : naP (y 4) (y 8 3) (y 8 4 - y 8 3) ((k : Int)).toNat = naP (y 4) (y 8 3) (y 8 4 - y 8 3) k := rfl; omega); rw [hk9 (by omega), if_pos hh]) | (rw [show 13 - k = 0 by omega]; rfl) | (exfalso; omega)) (by first | rfl | (congr 1; done))
          · skip
            refine jx_iload_n E 0 dX6_wordHere_37 rfl ?_
            refine jx_goto (tgt := 43) E dX6_wordHere_38 (by decide) ?_
            exact jx_iret E hr dX6_wordHere_43 (by first | (exfalso; omega) | skip; rw [← q3]; first | (have hh : naP (y 4) (y 8 3) (y 8 4 - y 8 3) k = 1 := (by have : naP (y 4) (y 8 3) (y 8 4 - y 8 3) ((k : Int)).toNat = naP (y 4) (y 8 3) (y 8 4 - y 8 3) k := rfl; omega); rw [hk9 (by omega), if_pos hh]) | (rw [show 13 - k = 0 by omega]; rfl) | (exfalso; omega)) (by first | rfl | (congr 1; done))
        · skip
          refine jx_iinc E 0 dX6_wordHere_25 rfl (by decide) [(1, vI ((k : Int) + 1)), (0, .ref (b 0))] rfl ?_
          refine jx_goto (tgt := 2) E dX6_wordHere_28 (by decide) ?_
          exact ih (k + 1) (by omega) (by omega) (by have hh : naP (y 4) (y 8 3) (y 8 4 - y 8 3) k ≠ 1 := (by have : naP (y 4) (y 8 3) (y 8 4 - y 8 3) ((k : Int)).toNat = naP (y 4) (y 8 3) (y 8 4 - y 8 3) k := rfl; omega); rw [← q3, hk9 (by omega), if_neg hh])
  exact LP2 14 0 (by omega) (by omega) rfl
set_option maxHeartbeats 4000000 in
theorem c_X6_reads (l : Launch) (G : GT) (b : Nat → Nat) (y : MS) (h1 : TG (y 4) (y 8)) : CtV l G yX6_reads cX6_reads 1 none 3 [.ref (b 0)] (wsM G b y) (wsM G b (setc y 8 (rdM (y 4) (y 8)))) := by
  obtain ⟨hn, hp, hw⟩ := id h1
  refine CtV.of (by decide) (Nat.le_of_ble_eq_true rfl) ?_
  intro p e s m args below meth c A E hr
  refine jx_lv (lv' := [(0, .ref (b 0))]) [0] rfl ?_
  have JN28 : ∀ (bb : Int), (bb = bgP (y 4) (y 8 1) (y 8 4)) → (y 8 4 ≤ bb ∧ bb ≤ y 8 1) → JX p l e (rmL 3) s m args below meth c 1 G A 0 0 (QV below args s G A (wsM G b (setc y 8 (rdM (y 4) (y 8))))) (wsM G b (setc y 8 (updI (y 8) 4 bb))) 28 [(0, .ref (b 0))] [] := by
    intro bb hbb hbi
    have hwk : bb < y 8 1 → 0 ≤ y 4 bb ∧ y 4 bb ≤ 255 := hw bb (by omega)
    refine jx_aload_n E 0 dX6_reads_28 rfl ?_
    refine jx_aload_n E 0 dX6_reads_29 rfl ?_
    refine jx_get E f_X6 9 (v := vI bb) wm_obj (by decide) wf_X6_163 (by first | rfl | (simp only [setc_at, List.getElem?_cons_zero, List.getElem?_cons_succ]; done) | (simp [setc_at]; done)) dX6_reads_30 ?_
    refine jx_put E f_X6 8 wm_obj (by decide) wf_X6_160 rfl rfl rfl (Nat.le_of_ble_eq_true rfl) wq_obj8 dX6_reads_33 ?_
    refine jx_eq (ws' := wsM G b (setc y 8 (updI (updI (y 8) 4 bb) 3 bb))) (congrArg (wsM G b) (by first | rfl | (rw [setc_setc]; rfl) | exact setc_in _ _ _ _ (by decide) | exact setc_in2 _ _ _ _ _ (by decide) (by decide) | (rw [setc_in _ _ _ _ (by decide), setc_in _ _ _ _ (by decide)]; rfl) | (rw [setc_in _ _ _ _ (by decide), setc_setc]; rfl) | (simp only [setc_setc, setc_at]; done) | (simp only [setc_setc, setc_at]; rfl) | (funext d; simp only [setc_app]; (repeat' split) <;> first | rfl | omega))) ?_
    refine jx_aload_n E 0 dX6_reads_36 rfl ?_
    refine jx_iconst E dX6_reads_37 ?_
    refine jx_put E f_X6 10 wm_obj (by decide) wf_X6_173 rfl rfl rfl (Nat.le_of_ble_eq_true rfl) wq_obj10 dX6_reads_38 ?_
    refine jx_eq (ws' := wsM G b (setc y 8 (updI (updI (updI (y 8) 4 bb) 3 bb) 5 0))) (congrArg (wsM G b) (by first | rfl | (rw [setc_setc]; rfl) | exact setc_in _ _ _ _ (by decide) | exact setc_in2 _ _ _ _ _ (by decide) (by decide) | (rw [setc_in _ _ _ _ (by decide), setc_in _ _ _ _ (by decide)]; rfl) | (rw [setc_in _ _ _ _ (by decide), setc_setc]; rfl) | (simp only [setc_setc, setc_at]; done) | (simp only [setc_setc, setc_at]; rfl) | (funext d; simp only [setc_app]; (repeat' split) <;> first | rfl | omega))) ?_
    refine jx_aload_n E 0 dX6_reads_41 rfl ?_
    refine jx_get E f_X6 9 (v := vI bb) wm_obj (by decide) wf_X6_163 (by first | rfl | (simp only [setc_at, List.getElem?_cons_zero, List.getElem?_cons_succ]; done) | (simp [setc_at]; done)) dX6_reads_42 ?_
    refine jx_aload_n E 0 dX6_reads_45 rfl ?_
    refine jx_get E f_X6 6 (v := vI ((y 8) 1)) wm_obj (by decide) wf_X6_153 (by first | rfl | (simp only [setc_at, List.getElem?_cons_zero, List.getElem?_cons_succ]; done) | (simp [setc_at]; done)) dX6_reads_46 ?_
    refine jx_icmp_ne (tgt := 61) E dX6_reads_49 (by decide) (fun c1 => ?_) (fun c1 => ?_)
    · skip
      refine jx_aload_n E 0 dX6_reads_61 rfl ?_
      refine jx_aload_n E 0 dX6_reads_62 rfl ?_
      refine jx_get E f_X6 9 (v := vI bb) wm_obj (by decide) wf_X6_163 (by first | rfl | (simp only [setc_at, List.getElem?_cons_zero, List.getElem?_cons_succ]; done) | (simp [setc_at]; done)) dX6_reads_63 ?_
      refine jx_bipush E dX6_reads_66 ?_
      refine jx_bipush E dX6_reads_68 ?_
      refine jx_callVi E [vI bb, vI 97, vI 122] [] (c_X6_isByte l G b (setc y 8 (updI (updI (updI (y 8) 4 bb) 3 bb) 5 0)) (k := bb) (lo := 97) (hi := 122) (by omega) (by unfold inR; omega) (by unfold inR; omega) (show 0 ≤ y 8 1 ∧ y 8 1 ≤ 120 from hn) (show ∀ k, 0 ≤ k → k < y 8 1 → 0 ≤ y 4 k ∧ y 4 k ≤ 255 from hw)) mb_X6_isByte mv_X6_isByte wl_X6_169 f_X6 wm_obj dX6_reads_70 ?_
      refine jx_st (st' := [vI (if bb < (y 8) 1 ∧ 97 ≤ (y 4) bb ∧ (y 4) bb ≤ 122 then 1 else 0)]) (by first | rfl | (simp only [setc_at]; done) | (simp only [setc_at]; rfl)) ?_
      refine jx_if_eq (tgt := 115) E dX6_reads_73 (by decide) (fun c2 => ?_) (fun c2 => ?_)
      · skip
        refine jx_aload_n E 0 dX6_reads_115 rfl ?_
        refine jx_aload_n E 0 dX6_reads_116 rfl ?_
        refine jx_get E f_X6 9 (v := vI bb) wm_obj (by decide) wf_X6_163 (by first | rfl | (simp only [setc_at, List.getElem?_cons_zero, List.getElem?_cons_succ]; done) | (simp [setc_at]; done)) dX6_reads_117 ?_
        refine jx_bipush E dX6_reads_120 ?_
        refine jx_bipush E dX6_reads_122 ?_
        refine jx_callVi E [vI bb, vI 48, vI 57] [] (c_X6_isByte l G b (setc y 8 (updI (updI (updI (y 8) 4 bb) 3 bb) 5 0)) (k := bb) (lo := 48) (hi := 57) (by omega) (by unfold inR; omega) (by unfold inR; omega) (show 0 ≤ y 8 1 ∧ y 8 1 ≤ 120 from hn) (show ∀ k, 0 ≤ k → k < y 8 1 → 0 ≤ y 4 k ∧ y 4 k ≤ 255 from hw)) mb_X6_isByte mv_X6_isByte wl_X6_169 f_X6 wm_obj dX6_reads_124 ?_
        refine jx_st (st' := [vI (if bb < (y 8) 1 ∧ 48 ≤ (y 4) bb ∧ (y 4) bb ≤ 57 then 1 else 0)]) (by first | rfl | (simp only [setc_at]; done) | (simp only [setc_at]; rfl)) ?_
        refine jx_if_eq (tgt := 208) E dX6_reads_127 (by decide) (fun c3 => ?_) (fun c3 => ?_)
        · skip
          refine jx_aload_n E 0 dX6_reads_208 rfl ?_
          refine jx_aload_n E 0 dX6_reads_209 rfl ?_
          refine jx_aload_n E 0 dX6_reads_210 rfl ?_
          refine jx_get E f_X6 9 (v := vI bb) wm_obj (by decide) wf_X6_163 (by first | rfl | (simp only [setc_at, List.getElem?_cons_zero, List.getElem?_cons_succ]; done) | (simp [setc_at]; done)) dX6_reads_211 ?_
          refine jx_bipush E dX6_reads_214 ?_
          refine jx_bipush E dX6_reads_216 ?_
          refine jx_callVi E [vI bb, vI 59, vI 59] [.ref (b 0)] (c_X6_isByte l G b (setc y 8 (updI (updI (updI (y 8) 4 bb) 3 bb) 5 0)) (k := bb) (lo := 59) (hi := 59) (by omega) (by unfold inR; omega) (by unfold inR; omega) (show 0 ≤ y 8 1 ∧ y 8 1 ≤ 120 from hn) (show ∀ k, 0 ≤ k → k < y 8 1 → 0 ≤ y 4 k ∧ y 4 k ≤ 255 from hw)) mb_X6_isByte mv_X6_isByte wl_X6_169 f_X6 wm_obj dX6_reads_218 ?_
          refine jx_st (st' := [vI (if bb < (y 8) 1 ∧ 59 ≤ (y 4) bb ∧ (y 4) bb ≤ 59 then 1 else 0), .ref (b 0)]) (by first | rfl | (simp only [setc_at]; done) | (simp only [setc_at]; rfl)) ?_
          refine jx_if_eq (tgt := 229) E dX6_reads_221 (by decide) (fun c4 => ?_) (fun c4 => ?_)
          · skip
            refine jx_bipush E dX6_reads_229 ?_
            refine jx_put E f_X6 7 wm_obj (by decide) wf_X6_176 rfl rfl rfl (Nat.le_of_ble_eq_true rfl) wq_obj7 dX6_reads_231 ?_
            refine jx_eq (ws' := wsM G b (setc y 8 (updI (updI (updI (updI (y 8) 4 bb) 3 bb) 5 0) 2 23))) (congrArg (wsM G b) (by first | rfl | (rw [setc_setc]; rfl) | exact setc_in _ _ _ _ (by decide) | exact setc_in2 _ _ _ _ _ (by decide) (by decide) | (rw [setc_in _ _ _ _ (by decide), setc_in _ _ _ _ (by decide)]; rfl) | (rw [setc_in _ _ _ _ (by decide), setc_setc]; rfl) | (simp only [setc_setc, setc_at]; done) | (simp only [setc_setc, setc_at]; rfl) | (funext d; simp only [setc_app]; (repeat' split) <;> first | rfl | omega))) ?_
            refine jx_aload_n E 0 dX6_reads_234 rfl ?_
            refine jx_dup E dX6_reads_235 ?_
            refine jx_get E f_X6 9 (v := vI bb) wm_obj (by decide) wf_X6_163 (by first | rfl | (simp only [setc_at, List.getElem?_cons_zero, List.getElem?_cons_succ]; done) | (simp [setc_at]; done)) dX6_reads_236 ?_
            refine jx_iconst E dX6_reads_239 ?_
            refine jx_iadd E dX6_reads_240 ?_
            refine jx_put E f_X6 9 wm_obj (by decide) wf_X6_163 rfl rfl rfl (Nat.le_of_ble_eq_true rfl) wq_obj9 dX6_reads_241 ?_
            refine jx_eq (ws' := wsM G b (setc y 8 (updI (updI (updI (updI (updI (y 8) 4 bb) 3 bb) 5 0) 2 23) 4 (bb + 1)))) (congrArg (wsM G b) (by first | rfl | (rw [setc_setc]; rfl) | exact setc_in _ _ _ _ (by decide) | exact setc_in2 _ _ _ _ _ (by decide) (by decide) | (rw [setc_in _ _ _ _ (by decide), setc_in _ _ _ _ (by decide)]; rfl) | (rw [setc_in _ _ _ _ (by decide), setc_setc]; rfl) | (simp only [setc_setc, setc_at]; done) | (simp only [setc_setc, setc_at]; rfl) | (funext d; simp only [setc_app]; (repeat' split) <;> first | rfl | omega))) ?_
            exact jx_vret E hr dX6_reads_244 (congrArg (fun z => wsM G b (setc y 8 z)) (rd_ext (by rw [← hbb]; show (23 : Int) = toP (y 4) (y 8 1) bb; unfold toP; omega) (by rw [← hbb]; rfl) (by rw [← hbb]; show bb + 1 = enP (y 4) (y 8 1) bb; unfold enP; rw [if_neg (by omega), if_neg (by omega), if_neg (by omega)]) (by rw [← hbb]; show (0 : Int) = vaP _ _ _; unfold vaP; rw [if_neg (by unfold soP; omega)]) (fun k a b c d => by simp [updI_app, a, b, c, d])))
          · skip
            refine jx_bipush E dX6_reads_224 ?_
            refine jx_goto (tgt := 231) E dX6_reads_226 (by decide) ?_
            refine jx_put E f_X6 7 wm_obj (by decide) wf_X6_176 rfl rfl rfl (Nat.le_of_ble_eq_true rfl) wq_obj7 dX6_reads_231 ?_
            refine jx_eq (ws' := wsM G b (setc y 8 (updI (updI (updI (updI (y 8) 4 bb) 3 bb) 5 0) 2 21))) (congrArg (wsM G b) (by first | rfl | (rw [setc_setc]; rfl) | exact setc_in _ _ _ _ (by decide) | exact setc_in2 _ _ _ _ _ (by decide) (by decide) | (rw [setc_in _ _ _ _ (by decide), setc_in _ _ _ _ (by decide)]; rfl) | (rw [setc_in _ _ _ _ (by decide), setc_setc]; rfl) | (simp only [setc_setc, setc_at]; done) | (simp only [setc_setc, setc_at]; rfl) | (funext d; simp only [setc_app]; (repeat' split) <;> first | rfl | omega))) ?_
            refine jx_aload_n E 0 dX6_reads_234 rfl ?_
            refine jx_dup E dX6_reads_235 ?_
            refine jx_get E f_X6 9 (v := vI bb) wm_obj (by decide) wf_X6_163 (by first | rfl | (simp only [setc_at, List.getElem?_cons_zero, List.getElem?_cons_succ]; done) | (simp [setc_at]; done)) dX6_reads_236 ?_
            refine jx_iconst E dX6_reads_239 ?_
            refine jx_iadd E dX6_reads_240 ?_
            refine jx_put E f_X6 9 wm_obj (by decide) wf_X6_163 rfl rfl rfl (Nat.le_of_ble_eq_true rfl) wq_obj9 dX6_reads_241 ?_
            refine jx_eq (ws' := wsM G b (setc y 8 (updI (updI (updI (updI (updI (y 8) 4 bb) 3 bb) 5 0) 2 21) 4 (bb + 1)))) (congrArg (wsM G b) (by first | rfl | (rw [setc_setc]; rfl) | exact setc_in _ _ _ _ (by decide) | exact setc_in2 _ _ _ _ _ (by decide) (by decide) | (rw [setc_in _ _ _ _ (by decide), setc_in _ _ _ _ (by decide)]; rfl) | (rw [setc_in _ _ _ _ (by decide), setc_setc]; rfl) | (simp only [setc_setc, setc_at]; done) | (simp only [setc_setc, setc_at]; rfl) | (funext d; simp only [setc_app]; (repeat' split) <;> first | rfl | omega))) ?_
            exact jx_vret E hr dX6_reads_244 (congrArg (fun z => wsM G b (setc y 8 z)) (rd_ext (by rw [← hbb]; show (21 : Int) = toP (y 4) (y 8 1) bb; unfold toP; omega) (by rw [← hbb]; rfl) (by rw [← hbb]; show bb + 1 = enP (y 4) (y 8 1) bb; unfold enP; rw [if_neg (by omega), if_neg (by omega), if_neg (by omega)]) (by rw [← hbb]; show (0 : Int) = vaP _ _ _; unfold vaP; rw [if_neg (by unfold soP; omega)]) (fun k a b c d => by simp [updI_app, a, b, c, d])))
        · skip
          have LP130 : ∀ (n2 : Nat) (k : Int) (v : Int), (bb ≤ k ∧ k ≤ y 8 1) → (scP 48 57 (y 4) (y 8 1) k = scP 48 57 (y 4) (y 8 1) bb) → (y 8 1 - k < n2) → (vrP (y 4) (y 8 1) k v = vrP (y 4) (y 8 1) bb 0) → (0 ≤ v ∧ v ≤ 100000) → JX p l e (rmL 3) s m args below meth c 1 G A 0 0 (QV below args s G A (wsM G b (setc y 8 (rdM (y 4) (y 8))))) (wsM G b (setc y 8 (updI (updI (updI (y 8) 3 bb) 4 k) 5 v))) 130 [(0, .ref (b 0))] [] := by
            intro n2
            induction n2 with
            | zero => intro k v q1 q2 q3 q4 q5; exfalso; omega
            | succ n2 ih =>
              intro k v q1 q2 q3 q4 q5
              have hwk : k < y 8 1 → 0 ≤ y 4 k ∧ y 4 k ≤ 255 := hw k (by omega)
              refine jx_aload_n E 0 dX6_reads_130 rfl ?_
              refine jx_aload_n E 0 dX6_reads_131 rfl ?_
              refine jx_get E f_X6 9 (v := vI k) wm_obj (by decide) wf_X6_163 (by first | rfl | (simp only [setc_at, List.getElem?_cons_zero, List.getElem?_cons_succ]; done) | (simp [setc_at]; done)) dX6_reads_132 ?_
              refine jx_bipush E dX6_reads_135 ?_
              refine jx_bipush E dX6_reads_137 ?_
              refine jx_callVi E [vI k, vI 48, vI 57] [] (c_X6_isByte l G b (setc y 8 (updI (updI (updI (y 8) 3 bb) 4 k) 5 v)) (k := k) (lo := 48) (hi := 57) (by omega) (by unfold inR; omega) (by unfold inR; omega) (show 0 ≤ y 8 1 ∧ y 8 1 ≤ 120 from hn) (show ∀ k, 0 ≤ k → k < y 8 1 → 0 ≤ y 4 k ∧ y 4 k ≤ 255 from hw)) mb_X6_isByte mv_X6_isByte wl_X6_169 f_X6 wm_obj dX6_reads_139 ?_
              refine jx_st (st' := [vI (if k < (y 8) 1 ∧ 48 ≤ (y 4) k ∧ (y 4) k ≤ 57 then 1 else 0)]) (by first | rfl | (simp only [setc_at]; done) | (simp only [setc_at]; rfl)) ?_
              refine jx_if_eq (tgt := 199) E dX6_reads_142 (by decide) (fun c5 => ?_) (fun c5 => ?_)
              · skip
                refine jx_aload_n E 0 dX6_reads_199 rfl ?_
                refine jx_bipush E dX6_reads_200 ?_
                refine jx_put E f_X6 7 wm_obj (by decide) wf_X6_176 rfl rfl rfl (Nat.le_of_ble_eq_true rfl) wq_obj7 dX6_reads_202 ?_
                refine jx_eq (ws' := wsM G b (setc y 8 (updI (updI (updI (updI (y 8) 3 bb) 4 k) 5 v) 2 20))) (congrArg (wsM G b) (by first | rfl | (rw [setc_setc]; rfl) | exact setc_in _ _ _ _ (by decide) | exact setc_in2 _ _ _ _ _ (by decide) (by decide) | (rw [setc_in _ _ _ _ (by decide), setc_in _ _ _ _ (by decide)]; rfl) | (rw [setc_in _ _ _ _ (by decide), setc_setc]; rfl) | (simp only [setc_setc, setc_at]; done) | (simp only [setc_setc, setc_at]; rfl) | (funext d; simp only [setc_app]; (repeat' split) <;> first | rfl | omega))) ?_
                refine jx_goto (tgt := 244) E dX6_reads_205 (by decide) ?_
                exact jx_vret E hr dX6_reads_244 (congrArg (fun z => wsM G b (setc y 8 z)) (rd_ext (by rw [← hbb]; show (20 : Int) = toP (y 4) (y 8 1) bb; unfold toP; omega) (by rw [← hbb]; rfl) (by rw [← hbb]; show k = enP (y 4) (y 8 1) bb; unfold enP; rw [if_neg (by omega), if_neg (by omega), if_pos (by omega), ← q2]; exact (sc_n (by omega)).symm) (by rw [← hbb]; show v = vaP _ _ _; unfold vaP; rw [if_pos (by unfold soP; omega), ← q4]; exact (vr_n (by omega)).symm) (fun k a b c d => by simp [updI_app, a, b, c, d])))
              · skip
                refine jx_aload_n E 0 dX6_reads_145 rfl ?_
                have JN183 : ∀ (u : Int), (u = if 9999 < v then v else 10 * v + y 4 k - 48) → JX p l e (rmL 3) s m args below meth c 1 G A 0 0 (QV below args s G A (wsM G b (setc y 8 (rdM (y 4) (y 8))))) (wsM G b (setc y 8 (updI (updI (updI (y 8) 3 bb) 4 k) 5 v))) 183 [(0, .ref (b 0))] [vI u, .ref (b 0)] := by
                  intro u hu
                  refine jx_put E f_X6 10 wm_obj (by decide) wf_X6_173 rfl rfl rfl (Nat.le_of_ble_eq_true rfl) wq_obj10 dX6_reads_183 ?_
                  refine jx_eq (ws' := wsM G b (setc y 8 (updI (updI (updI (updI (y 8) 3 bb) 4 k) 5 v) 5 u))) (congrArg (wsM G b) (by first | rfl | (rw [setc_setc]; rfl) | exact setc_in _ _ _ _ (by decide) | exact setc_in2 _ _ _ _ _ (by decide) (by decide) | (rw [setc_in _ _ _ _ (by decide), setc_in _ _ _ _ (by decide)]; rfl) | (rw [setc_in _ _ _ _ (by decide), setc_setc]; rfl) | (simp only [setc_setc, setc_at]; done) | (simp only [setc_setc, setc_at]; rfl) | (funext d; simp only [setc_app]; (repeat' split) <;> first | rfl | omega))) ?_
                  refine jx_aload_n E 0 dX6_reads_186 rfl ?_
                  refine jx_dup E dX6_reads_187 ?_
                  refine jx_get E f_X6 9 (v := vI k) wm_obj (by decide) wf_X6_163 (by first | rfl | (simp only [setc_at, List.getElem?_cons_zero, List.getElem?_cons_succ]; done) | (simp [setc_at]; done)) dX6_reads_188 ?_
                  refine jx_iconst E dX6_reads_191 ?_
                  refine jx_iadd E dX6_reads_192 ?_
                  refine jx_put E f_X6 9 wm_obj (by decide) wf_X6_163 rfl rfl rfl (Nat.le_of_ble_eq_true rfl) wq_obj9 dX6_reads_193 ?_
                  refine jx_eq (ws' := wsM G b (setc y 8 (updI (updI (updI (updI (updI (y 8) 3 bb) 4 k) 5 v) 5 u) 4 (k + 1)))) (congrArg (wsM G b) (by first | rfl | (rw [setc_setc]; rfl) | exact setc_in _ _ _ _ (by decide) | exact setc_in2 _ _ _ _ _ (by decide) (by decide) | (rw [setc_in _ _ _ _ (by decide), setc_in _ _ _ _ (by decide)]; rfl) | (rw [setc_in _ _ _ _ (by decide), setc_setc]; rfl) | (simp only [setc_setc, setc_at]; done) | (simp only [setc_setc, setc_at]; rfl) | (funext d; simp only [setc_app]; (repeat' split) <;> first | rfl | omega))) ?_
                  refine jx_goto (tgt := 130) E dX6_reads_196 (by decide) ?_
                  refine jx_eq (ws' := wsM G b (setc y 8 (updI (updI (updI (y 8) 3 bb) 4 (k + 1)) 5 u))) (congrArg (fun z => wsM G b (setc y 8 z)) (by funext q9; simp only [updI_app]; (repeat' split) <;> first | rfl | omega)) ?_
                  subst hu
                  exact ih (k + 1) _ (by omega) (by rw [sc_y (by omega)]; exact q2) (by omega) (by rw [vr_y (by omega)]; exact q4) (by omega)
                refine jx_aload_n E 0 dX6_reads_146 rfl ?_
                refine jx_get E f_X6 10 (v := vI v) wm_obj (by decide) wf_X6_173 (by first | rfl | (simp only [setc_at, List.getElem?_cons_zero, List.getElem?_cons_succ]; done) | (simp [setc_at]; done)) dX6_reads_147 ?_
                refine jx_sipush E dX6_reads_150 ?_
                refine jx_icmp_le (tgt := 163) E dX6_reads_153 (by decide) (fun c6 => ?_) (fun c6 => ?_)
                · skip
                  refine jx_bipush E dX6_reads_163 ?_
                  refine jx_aload_n E 0 dX6_reads_165 rfl ?_
                  refine jx_get E f_X6 10 (v := vI v) wm_obj (by decide) wf_X6_173 (by first | rfl | (simp only [setc_at, List.getElem?_cons_zero, List.getElem?_cons_succ]; done) | (simp [setc_at]; done)) dX6_reads_166 ?_
                  refine jx_imul E dX6_reads_169 ?_
                  refine jx_aload_n E 0 dX6_reads_170 rfl ?_
                  refine jx_get E f_X6 5 (v := .ref (b 5)) wm_obj (by decide) wf_X6_22 rfl dX6_reads_171 ?_
                  refine jx_aload_n E 0 dX6_reads_174 rfl ?_
                  refine jx_get E f_X6 9 (v := vI k) wm_obj (by decide) wf_X6_163 (by first | rfl | (simp only [setc_at, List.getElem?_cons_zero, List.getElem?_cons_succ]; done) | (simp [setc_at]; done)) dX6_reads_175 ?_
                  refine jx_iald E (v := (y 4) k) wm_tape (row0_at (by omega) (by omega)) (by omega) (by omega) (by decide) dX6_reads_178 ?_
                  refine jx_iadd E dX6_reads_179 ?_
                  refine jx_bipush E dX6_reads_180 ?_
                  refine jx_isub E dX6_reads_182 ?_
                  exact JN183 _ (by omega)
                · skip
                  refine jx_aload_n E 0 dX6_reads_156 rfl ?_
                  refine jx_get E f_X6 10 (v := vI v) wm_obj (by decide) wf_X6_173 (by first | rfl | (simp only [setc_at, List.getElem?_cons_zero, List.getElem?_cons_succ]; done) | (simp [setc_at]; done)) dX6_reads_157 ?_
                  refine jx_goto (tgt := 183) E dX6_reads_160 (by decide) ?_
                  exact JN183 _ (by omega)
          refine jx_eq (ws' := wsM G b (setc y 8 (updI (updI (updI (y 8) 3 bb) 4 bb) 5 0))) (congrArg (fun z => wsM G b (setc y 8 z)) (by funext q9; simp only [updI_app]; (repeat' split) <;> first | rfl | omega)) ?_
          exact LP130 121 bb 0 (by omega) rfl (by omega) rfl (by omega)
      · skip
        have LP76 : ∀ (n2 : Nat) (k : Int), (bb ≤ k ∧ k ≤ y 8 1) → (scP 97 122 (y 4) (y 8 1) k = scP 97 122 (y 4) (y 8 1) bb) → (y 8 1 - k < n2) → JX p l e (rmL 3) s m args below meth c 1 G A 0 0 (QV below args s G A (wsM G b (setc y 8 (rdM (y 4) (y 8))))) (wsM G b (setc y 8 (updI (updI (updI (y 8) 3 bb) 5 0) 4 k))) 76 [(0, .ref (b 0))] [] := by
          intro n2
          induction n2 with
          | zero => intro k q1 q2 q3; exfalso; omega
          | succ n2 ih =>
            intro k q1 q2 q3
            have hwk : k < y 8 1 → 0 ≤ y 4 k ∧ y 4 k ≤ 255 := hw k (by omega)
            refine jx_aload_n E 0 dX6_reads_76 rfl ?_
            refine jx_aload_n E 0 dX6_reads_77 rfl ?_
            refine jx_get E f_X6 9 (v := vI k) wm_obj (by decide) wf_X6_163 (by first | rfl | (simp only [setc_at, List.getElem?_cons_zero, List.getElem?_cons_succ]; done) | (simp [setc_at]; done)) dX6_reads_78 ?_
            refine jx_bipush E dX6_reads_81 ?_
            refine jx_bipush E dX6_reads_83 ?_
            refine jx_callVi E [vI k, vI 97, vI 122] [] (c_X6_isByte l G b (setc y 8 (updI (updI (updI (y 8) 3 bb) 5 0) 4 k)) (k := k) (lo := 97) (hi := 122) (by omega) (by unfold inR; omega) (by unfold inR; omega) (show 0 ≤ y 8 1 ∧ y 8 1 ≤ 120 from hn) (show ∀ k, 0 ≤ k → k < y 8 1 → 0 ≤ y 4 k ∧ y 4 k ≤ 255 from hw)) mb_X6_isByte mv_X6_isByte wl_X6_169 f_X6 wm_obj dX6_reads_85 ?_
            refine jx_st (st' := [vI (if k < (y 8) 1 ∧ 97 ≤ (y 4) k ∧ (y 4) k ≤ 122 then 1 else 0)]) (by first | rfl | (simp only [setc_at]; done) | (simp only [setc_at]; rfl)) ?_
            refine jx_if_eq (tgt := 104) E dX6_reads_88 (by decide) (fun c7 => ?_) (fun c7 => ?_)
            · skip
              refine jx_aload_n E 0 dX6_reads_104 rfl ?_
              refine jx_aload_n E 0 dX6_reads_105 rfl ?_
              refine jx_callVi E [] [.ref (b 0)] (c_X6_wordHere l G b (setc y 8 (updI (updI (updI (y 8) 3 bb) 5 0) 4 k))  (show 0 ≤ y 8 1 ∧ y 8 1 ≤ 120 from hn) (show 0 ≤ bb ∧ bb ≤ k ∧ k ≤ y 8 1 by omega) (show ∀ k, 0 ≤ k → k < y 8 1 → 0 ≤ y 4 k ∧ y 4 k ≤ 255 from hw)) mb_X6_wordHere mv_X6_wordHere wl_X6_179 f_X6 wm_obj dX6_reads_106 ?_
              refine jx_st (st' := [vI (wdP (y 4) (bb) (k - bb)), .ref (b 0)]) (by first | rfl | (simp only [setc_at]; done) | (simp only [setc_at]; rfl)) ?_
              refine jx_put E f_X6 7 wm_obj (by decide) wf_X6_176 rfl rfl rfl (Nat.le_of_ble_eq_true rfl) wq_obj7 dX6_reads_109 ?_
              refine jx_eq (ws' := wsM G b (setc y 8 (updI (updI (updI (updI (y 8) 3 bb) 5 0) 4 k) 2 (wdP (y 4) (bb) (k - bb))))) (congrArg (wsM G b) (by first | rfl | (rw [setc_setc]; rfl) | exact setc_in _ _ _ _ (by decide) | exact setc_in2 _ _ _ _ _ (by decide) (by decide) | (rw [setc_in _ _ _ _ (by decide), setc_in _ _ _ _ (by decide)]; rfl) | (rw [setc_in _ _ _ _ (by decide), setc_setc]; rfl) | (simp only [setc_setc, setc_at]; done) | (simp only [setc_setc, setc_at]; rfl) | (funext d; simp only [setc_app]; (repeat' split) <;> first | rfl | omega))) ?_
              refine jx_goto (tgt := 244) E dX6_reads_112 (by decide) ?_
              exact jx_vret E hr dX6_reads_244 (congrArg (fun z => wsM G b (setc y 8 z)) (rd_ext (by rw [← hbb]; show wdP (y 4) bb (k - bb) = toP (y 4) (y 8 1) bb; unfold toP; rw [if_neg (by omega), if_pos (by omega), ← q2, sc_n (by omega)]) (by rw [← hbb]; rfl) (by rw [← hbb]; show k = enP (y 4) (y 8 1) bb; unfold enP; rw [if_neg (by omega), if_pos (by omega), ← q2]; exact (sc_n (by omega)).symm) (by rw [← hbb]; show (0 : Int) = vaP _ _ _; unfold vaP; rw [if_neg (by unfold soP; omega)]) (fun k a b c d => by simp [updI_app, a, b, c, d])))
            · skip
              refine jx_aload_n E 0 dX6_reads_91 rfl ?_
              refine jx_dup E dX6_reads_92 ?_
              refine jx_get E f_X6 9 (v := vI k) wm_obj (by decide) wf_X6_163 (by first | rfl | (simp only [setc_at, List.getElem?_cons_zero, List.getElem?_cons_succ]; done) | (simp [setc_at]; done)) dX6_reads_93 ?_
              refine jx_iconst E dX6_reads_96 ?_
              refine jx_iadd E dX6_reads_97 ?_
              refine jx_put E f_X6 9 wm_obj (by decide) wf_X6_163 rfl rfl rfl (Nat.le_of_ble_eq_true rfl) wq_obj9 dX6_reads_98 ?_
              refine jx_eq (ws' := wsM G b (setc y 8 (updI (updI (updI (updI (y 8) 3 bb) 5 0) 4 k) 4 (k + 1)))) (congrArg (wsM G b) (by first | rfl | (rw [setc_setc]; rfl) | exact setc_in _ _ _ _ (by decide) | exact setc_in2 _ _ _ _ _ (by decide) (by decide) | (rw [setc_in _ _ _ _ (by decide), setc_in _ _ _ _ (by decide)]; rfl) | (rw [setc_in _ _ _ _ (by decide), setc_setc]; rfl) | (simp only [setc_setc, setc_at]; done) | (simp only [setc_setc, setc_at]; rfl) | (funext d; simp only [setc_app]; (repeat' split) <;> first | rfl | omega))) ?_
              refine jx_goto (tgt := 76) E dX6_reads_101 (by decide) ?_
              refine jx_eq (ws' := wsM G b (setc y 8 (updI (updI (updI (y 8) 3 bb) 5 0) 4 (k + 1)))) (congrArg (fun z => wsM G b (setc y 8 z)) (upd2 _ _ _ _)) ?_
              exact ih (k + 1) (by omega) (by rw [sc_y (by omega)]; exact q2) (by omega)
        refine jx_eq (ws' := wsM G b (setc y 8 (updI (updI (updI (y 8) 3 bb) 5 0) 4 bb))) (congrArg (fun z => wsM G b (setc y 8 z)) (by funext q9; simp only [updI_app]; (repeat' split) <;> first | rfl | omega)) ?_
        exact LP76 121 bb (by omega) rfl (by omega)
    · skip
      refine jx_aload_n E 0 dX6_reads_52 rfl ?_
      refine jx_bipush E dX6_reads_53 ?_
      refine jx_put E f_X6 7 wm_obj (by decide) wf_X6_176 rfl rfl rfl (Nat.le_of_ble_eq_true rfl) wq_obj7 dX6_reads_55 ?_
      refine jx_eq (ws' := wsM G b (setc y 8 (updI (updI (updI (updI (y 8) 4 bb) 3 bb) 5 0) 2 22))) (congrArg (wsM G b) (by first | rfl | (rw [setc_setc]; rfl) | exact setc_in _ _ _ _ (by decide) | exact setc_in2 _ _ _ _ _ (by decide) (by decide) | (rw [setc_in _ _ _ _ (by decide), setc_in _ _ _ _ (by decide)]; rfl) | (rw [setc_in _ _ _ _ (by decide), setc_setc]; rfl) | (simp only [setc_setc, setc_at]; done) | (simp only [setc_setc, setc_at]; rfl) | (funext d; simp only [setc_app]; (repeat' split) <;> first | rfl | omega))) ?_
      refine jx_goto (tgt := 244) E dX6_reads_58 (by decide) ?_
      exact jx_vret E hr dX6_reads_244 (congrArg (fun z => wsM G b (setc y 8 z)) (rd_ext (by rw [← hbb]; show (22 : Int) = toP (y 4) (y 8 1) bb; unfold toP; omega) (by rw [← hbb]; rfl) (by rw [← hbb]; show bb = enP (y 4) (y 8 1) bb; unfold enP; rw [if_pos (by omega)]) (by rw [← hbb]; show (0 : Int) = vaP _ _ _; unfold vaP; rw [if_neg (by unfold soP; omega)]) (fun k a b c d => by simp [updI_app, a, b, c, d])))
  have LP0 : ∀ (n2 : Nat) (k : Int), (y 8 4 ≤ k ∧ k ≤ y 8 1) → (scP 32 32 (y 4) (y 8 1) k = bgP (y 4) (y 8 1) (y 8 4)) → (y 8 1 - k < n2) → JX p l e (rmL 3) s m args below meth c 1 G A 0 0 (QV below args s G A (wsM G b (setc y 8 (rdM (y 4) (y 8))))) (wsM G b (setc y 8 (updI (y 8) 4 k))) 0 [(0, .ref (b 0))] [] := by
    intro n2
    induction n2 with
    | zero => intro k q1 q2 q3; exfalso; omega
    | succ n2 ih =>
      intro k q1 q2 q3
      have hwk : k < y 8 1 → 0 ≤ y 4 k ∧ y 4 k ≤ 255 := hw k (by omega)
      refine jx_aload_n E 0 dX6_reads_0 rfl ?_
      refine jx_aload_n E 0 dX6_reads_1 rfl ?_
      refine jx_get E f_X6 9 (v := vI k) wm_obj (by decide) wf_X6_163 (by first | rfl | (simp only [setc_at, List.getElem?_cons_zero, List.getElem?_cons_succ]; done) | (simp [setc_at]; done)) dX6_reads_2 ?_
      refine jx_bipush E dX6_reads_5 ?_
      refine jx_bipush E dX6_reads_7 ?_
      refine jx_callVi E [vI k, vI 32, vI 32] [] (c_X6_isByte l G b (setc y 8 (updI (y 8) 4 k)) (k := k) (lo := 32) (hi := 32) (by omega) (by unfold inR; omega) (by unfold inR; omega) (show 0 ≤ y 8 1 ∧ y 8 1 ≤ 120 from hn) (show ∀ k, 0 ≤ k → k < y 8 1 → 0 ≤ y 4 k ∧ y 4 k ≤ 255 from hw)) mb_X6_isByte mv_X6_isByte wl_X6_169 f_X6 wm_obj dX6_reads_9 ?_
      refine jx_st (st' := [vI (if k < (y 8) 1 ∧ 32 ≤ (y 4) k ∧ (y 4) k ≤ 32 then 1 else 0)]) (by first | rfl | (simp only [setc_at]; done) | (simp only [setc_at]; rfl)) ?_
      refine jx_if_eq (tgt := 28) E dX6_reads_12 (by decide) (fun c8 => ?_) (fun c8 => ?_)
      · skip
        exact JN28 k (by rw [← q2]; exact (sc_n (by omega)).symm) (by omega)
      · skip
        refine jx_aload_n E 0 dX6_reads_15 rfl ?_
        refine jx_dup E dX6_reads_16 ?_
        refine jx_get E f_X6 9 (v := vI k) wm_obj (by decide) wf_X6_163 (by first | rfl | (simp only [setc_at, List.getElem?_cons_zero, List.getElem?_cons_succ]; done) | (simp [setc_at]; done)) dX6_reads_17 ?_
        refine jx_iconst E dX6_reads_20 ?_
        refine jx_iadd E dX6_reads_21 ?_
        refine jx_put E f_X6 9 wm_obj (by decide) wf_X6_163 rfl rfl rfl (Nat.le_of_ble_eq_true rfl) wq_obj9 dX6_reads_22 ?_
        refine jx_eq (ws' := wsM G b (setc y 8 (updI (updI (y 8) 4 k) 4 (k + 1)))) (congrArg (wsM G b) (by first | rfl | (rw [setc_setc]; rfl) | exact setc_in _ _ _ _ (by decide) | exact setc_in2 _ _ _ _ _ (by decide) (by decide) | (rw [setc_in _ _ _ _ (by decide), setc_in _ _ _ _ (by decide)]; rfl) | (rw [setc_in _ _ _ _ (by decide), setc_setc]; rfl) | (simp only [setc_setc, setc_at]; done) | (simp only [setc_setc, setc_at]; rfl) | (funext d; simp only [setc_app]; (repeat' split) <;> first | rfl | omega))) ?_
        refine jx_goto (tgt := 0) E dX6_reads_25 (by decide) ?_
        refine jx_eq (ws' := wsM G b (setc y 8 (updI (y 8) 4 (k + 1)))) (congrArg (fun z => wsM G b (setc y 8 z)) (upd2 _ _ _ _)) ?_
        exact ih (k + 1) (by omega) (by rw [sc_y (by omega)]; exact q2) (by omega)
  refine jx_eq (ws' := wsM G b (setc y 8 (updI (y 8) 4 (y 8 4)))) (by rw [upd_self, setc_self]) ?_
  exact LP0 121 (y 8 4) (by omega) rfl (by omega)
