/-! 34.x4: laid by the walker out of specX4 -/
def shX (x : MS) (s : Int) : Int → Int := fun k => x 5 (40 * s + k)
theorem st_upd {t : Int → Int} {i k v : Int} (h : k ≠ 21 + 5 * i + 4) : updI t k v (21 + 5 * i + 4) = t (21 + 5 * i + 4) := updI_ne _ _ (fun q => h q.symm)
theorem st_stoop {d : Int} {t : Int → Int} (hV : VT d t) {i q : Int} (hi : 0 ≤ i ∧ i < t 4) : t (21 + 5 * i + 4) ≤ stoopP t q (21 + 5 * i + 4) := by
  have h := (hV.2.2.2.2.2.2.2 i hi.1 hi.2).2.2.2.2
  simp only [stoopP, updI_app]
  by_cases e : q = i
  · subst e; rw [if_pos rfl]; omega
  · rw [if_neg (by omega), if_neg (by omega)]; exact Int.le_refl _
theorem st_committee {d : Int} {t : Int → Int} (hV : VT d t) {i : Int} (hi : 0 ≤ i ∧ i < t 4) : t (21 + 5 * i + 4) ≤ committeeP t (21 + 5 * i + 4) := by
  unfold committeeP
  split
  · split
    · exact Int.le_refl _
    · exact st_stoop hV hi
  · split
    · split
      · exact Int.le_refl _
      · rw [st_upd (by omega)]; exact Int.le_refl _
    · exact Int.le_refl _
theorem st_flow {d c : Int} {t : Int → Int} (hV : VT d t) {i q : Int} (hi : 0 ≤ i ∧ i < t 4) : t (21 + 5 * i + 4) ≤ flowP c t q (21 + 5 * i + 4) := by
  unfold flowP
  split
  · rw [st_upd (by omega)]; exact Int.le_refl _
  · split
    · exact Int.le_refl _
    · exact st_stoop hV hi
theorem st_flows {d c : Int} {t : Int → Int} (hV : VT d t) {i : Int} (hi : 0 ≤ i ∧ i < t 4) (n : Nat) (hn : n ≤ t 4) : t (21 + 5 * i + 4) ≤ flowsP c t n (21 + 5 * i + 4) := by
  induction n with
  | zero => exact Int.le_refl _
  | succ n ih =>
    have a := VT_flows (c := c) hV n (by omega)
    exact Int.le_trans (ih (by omega)) (st_flow a.1 (by rw [a.2.2.2.2.1]; exact hi))
theorem st_gains {c : Int} {t : Int → Int} {i : Int} (n : Nat) : gainsAllP c t n (21 + 5 * i + 4) = t (21 + 5 * i + 4) := by
  induction n with
  | zero => rfl
  | succ n ih => show gainP c (gainsAllP c t n) n (21 + 5 * i + 4) = _; unfold gainP; rw [st_upd (by omega), ih]
theorem st_day {d : Int} {t : Int → Int} (hV : VT d t) {i : Int} (hi : 0 ≤ i ∧ i < t 4) : t (21 + 5 * i + 4) ≤ dayP t (21 + 5 * i + 4) := by
  have h4 := hV.2.2.2.2.1
  have a := VT_rained hV
  have b := VT_committee a
  have e0 : rainedP t (21 + 5 * i + 4) = t (21 + 5 * i + 4) := st_upd (by omega)
  have f1 : FR t (committeeP (rainedP t)) := (FR_rained t).tr b.2
  have e1 := st_committee a (i := i) (by rw [(FR_rained t).2.2.2.1]; exact hi)
  have e2 := st_flows (c := coldP t) b.1 (i := i) (by rw [f1.2.2.2.1]; exact hi) (t 4).toNat (by rw [f1.2.2.2.1]; omega)
  unfold dayP
  rw [st_upd (by omega)]
  unfold eveP
  rw [st_gains]
  omega
theorem st_days {d : Int} {t : Int → Int} (hV : VT d t) {i : Int} (hi : 0 ≤ i ∧ i < t 4) (m n : Nat) (h : m ≤ n) : daysP m t (21 + 5 * i + 4) ≤ daysP n t (21 + 5 * i + 4) := by
  induction n with
  | zero => rw [show m = 0 by omega]; exact Int.le_refl _
  | succ n ih =>
    rcases (show m = n + 1 ∨ m ≤ n by omega) with e | e
    · rw [e]; exact Int.le_refl _
    · exact Int.le_trans (ih e) (st_day (VT_days hV n) (by rw [days_4 hV]; exact hi))
theorem sum_le {f g : Int → Int} (n : Nat) (h : ∀ i : Int, 0 ≤ i → i < n → f i ≤ g i) : sumP f n ≤ sumP g n := by
  induction n with
  | zero => exact Int.le_refl _
  | succ n ih =>
    have a := ih (fun i x y => h i x (by omega))
    have b := h n (by omega) (by omega)
    simp only [sumP]; omega
theorem ss_days {d : Int} {t : Int → Int} (hV : VT d t) (m n : Nat) (h : m ≤ n) : stoopedP (daysP m t) ≤ stoopedP (daysP n t) := by
  unfold stoopedP
  rw [days_4 hV, days_4 hV]
  have h4 := hV.2.2.2.2.1
  exact sum_le _ (fun i a b => st_days hV ⟨a, by omega⟩ m n h)
set_option maxHeartbeats 4000000 in
theorem c_X4_daysTillOff_1 (l : Launch) (G : GT) (a : Nat → Nat) (x : MS) {f : Int} (h1 : VT 1000000 (x 1)) (h2 : inR f) : CtE l G yX4_daysTillOff cX4_daysTillOff 3 (some .int) 5 [.ref (a 13), vI f] (wsX G a x) (if vFou (x 1) f then offF f 401 (x 1) else 401) (fun u9 => wsX G a (setc x 1 u9)) := by
  have h4 := h1.2.2.2.2.1
  unfold inR at h2
  refine CtE.of (by decide) (Nat.le_of_ble_eq_true rfl) ?_
  intro p e s m args below meth c A E hr
  refine jx_lv (lv' := [(0, .ref (a 13)), (1, vI f)]) [0, 1] rfl ?_
  refine jx_aload_n E 0 dX4_daysTillOff_0 rfl ?_
  refine jx_iload_n E 1 dX4_daysTillOff_1 rfl ?_
  refine jx_callVi E [vI f] [] (c_X4_has_1 l G a x (f := f) (by unfold inR; omega) (by omega)) mb_X4_has mv_X4_has wl_X4_114 f_X4 (wx_town (j := 1) (by decide)) dX4_daysTillOff_2 ?_
  refine jx_if_ne (tgt := 12) E dX4_daysTillOff_5 (by decide) (fun c1 => ?_) (fun c1 => ?_)
  · skip
    refine jx_iconst E dX4_daysTillOff_12 ?_
    refine jx_istore_n E dX4_daysTillOff_13 (by decide) [(2, vI 0), (0, .ref (a 13)), (1, vI f)] rfl ?_
    have LP14 : ∀ (n2 : Nat) (k : Nat) (T : Int → Int), (k ≤ 401) → (k < n2) → (VT (1000401 - k) T) → (T 4 = x 1 4) → (offF f k T = offF f 401 (x 1)) → JX p l e (rmL 5) s m args below meth c 3 G A 0 0 (QE below args s G A ((if vFou (x 1) f then offF f 401 (x 1) else 401)) (fun u9 => wsX G a (setc x 1 u9))) (wsX G a (setc x 1 T)) 14 [(2, vI (401 - (k : Int))), (0, .ref (a 13)), (1, vI f)] [] := by
      intro n2
      induction n2 with
      | zero => intro k T q1 q2 hT hT4 hQ; exfalso; omega
      | succ n2 ih =>
        intro k T q1 q2 hT hT4 hQ
        have hoff := (hT.2.2.2.2.2.2.2 f (by omega) (by rw [hT4]; omega)).2.2.1
        refine jx_iload_n E 0 dX4_daysTillOff_14 rfl ?_
        refine jx_sipush E dX4_daysTillOff_15 ?_
        refine jx_icmp_gt (tgt := 46) E dX4_daysTillOff_18 (by decide) (fun c2 => ?_) (fun c2 => ?_)
        · skip
          refine jx_sipush E dX4_daysTillOff_46 ?_
          exact jx_iretE E hr dX4_daysTillOff_49 (by rw [if_pos (by omega), ← hQ]; rcases (show k = 0 ∨ ∃ k', k = k' + 1 from by rcases k with _ | k'; exact Or.inl rfl; exact Or.inr ⟨k', rfl⟩) with e | ⟨k', e⟩ <;> subst e <;> simp only [offF] <;> omega) (T) rfl
        · skip
          refine jx_aload_n E 1 dX4_daysTillOff_21 rfl ?_
          refine jx_get E f_X4 6 (v := .ref (a 16)) (wx_town (j := 1) (by decide)) (by decide) wf_X4_33 rfl dX4_daysTillOff_22 ?_
          refine jx_iload_n E 2 dX4_daysTillOff_25 rfl ?_
          refine jx_aald E 2 (y := a (5 + 12 * 1 + f.toNat)) (wx_row (j := 1) (by decide)) rfl rfl (by omega) (by omega) (by decide) dX4_daysTillOff_26 ?_
          refine jx_get E f_X0 2 (v := vI (T (21 + 5 * f + 2))) (wx_fou (j := 1) (by decide) (by omega) (by omega)) (by decide) wf_X4_65 (by first | rfl | (simp only [setc_at, List.getElem?_cons_zero, List.getElem?_cons_succ]; done) | (simp [setc_at]; done)) dX4_daysTillOff_27 ?_
          refine jx_iconst E dX4_daysTillOff_30 ?_
          refine jx_icmp_ne (tgt := 36) E dX4_daysTillOff_31 (by decide) (fun c3 => ?_) (fun c3 => ?_)
          · skip
            refine jx_aload_n E 1 dX4_daysTillOff_36 rfl ?_
            refine jx_callVv E [] [] (c_X4_passDay_1 l G a (setc x 1 T)  (VT_up hT (by omega))) mb_X4_passDay mv_X4_passDay wl_X4_85 f_X4 (wx_town (j := 1) (by decide)) dX4_daysTillOff_37 ?_
            refine jx_eq (ws' := wsX G a (setc x 1 (dayP T))) (congrArg (wsX G a) (by first | rfl | (rw [setc_setc]; rfl) | exact setc_in _ _ _ _ (by decide) | exact setc_in2 _ _ _ _ _ (by decide) (by decide) | (simp only [setc_setc, setc_at]; done) | (simp only [setc_setc, setc_at]; rfl) | (funext d; simp only [setc_app]; (repeat' split) <;> first | rfl | omega))) ?_
            refine jx_iinc E 0 dX4_daysTillOff_40 rfl (by decide) [(2, vI (401 - (k : Int) + 1)), (0, .ref (a 13)), (1, vI f)] rfl ?_
            refine jx_goto (tgt := 14) E dX4_daysTillOff_43 (by decide) ?_
            obtain ⟨k', rfl⟩ : ∃ k', k = k' + 1 := ⟨k - 1, by omega⟩
            refine jx_lve (congrArg (fun z => [(2, vI z), (0, Value.ref (a 13)), (1, vI f)]) (show 401 - ((k' + 1 : Nat) : Int) + 1 = 401 - (k' : Int) by omega)) ?_
            exact ih k' (dayP T) (by omega) (by omega) (VT_up (VT_day hT) (by omega)) (by rw [day_4 hT, hT4]) (by rw [← hQ, offF, if_neg (by omega)])
          · skip
            refine jx_iload_n E 0 dX4_daysTillOff_34 rfl ?_
            exact jx_iretE E hr dX4_daysTillOff_35 (by rw [if_pos (by omega), ← hQ]; rcases (show k = 0 ∨ ∃ k', k = k' + 1 from by rcases k with _ | k'; exact Or.inl rfl; exact Or.inr ⟨k', rfl⟩) with e | ⟨k', e⟩ <;> subst e <;> simp only [offF] <;> omega) (T) rfl
    refine jx_eq (ws' := wsX G a (setc x 1 (x 1))) (congrArg (wsX G a) (setc_self x 1).symm) ?_
    exact LP14 402 401 (x 1) (by omega) (by omega) (VT_up h1 (by omega)) rfl rfl
  · skip
    refine jx_sipush E dX4_daysTillOff_8 ?_
    exact jx_iretE E hr dX4_daysTillOff_11 (by rw [if_neg (by omega)]) (x 1) (congrArg (wsX G a) (setc_self x 1).symm)
set_option maxHeartbeats 4000000 in
theorem c_X4_letsGo_1 (l : Launch) (G : GT) (a : Nat → Nat) (x : MS) {f n : Int} (h1 : VT 1000000 (x 1)) (h2 : inR f) (h3 : 0 ≤ n ∧ n ≤ 1000) : CtE l G yX4_letsGo cX4_letsGo 5 (some .boolean) 5 [.ref (a 13), vI f, vI n] (wsX G a x) (if vFou (x 1) f then staysI (x 1) f n.toNat else 0) (fun u9 => wsX G a (setc x 1 u9)) := by
  have h4 := h1.2.2.2.2.1
  unfold inR at h2
  refine CtE.of (by decide) (Nat.le_of_ble_eq_true rfl) ?_
  intro p e s m args below meth c A E hr
  refine jx_lv (lv' := [(0, .ref (a 13)), (1, vI f), (2, vI n)]) [0, 1, 2] rfl ?_
  refine jx_aload_n E 0 dX4_letsGo_0 rfl ?_
  refine jx_iload_n E 1 dX4_letsGo_1 rfl ?_
  refine jx_callVi E [vI f] [] (c_X4_has_1 l G a x (f := f) (by unfold inR; omega) (by omega)) mb_X4_has mv_X4_has wl_X4_114 f_X4 (wx_town (j := 1) (by decide)) dX4_letsGo_2 ?_
  refine jx_if_ne (tgt := 10) E dX4_letsGo_5 (by decide) (fun c1 => ?_) (fun c1 => ?_)
  · skip
    have hvf : 0 ≤ f ∧ f < x 1 4 := by omega
    have hst := (h1.2.2.2.2.2.2.2 f hvf.1 hvf.2).2.2.2.2
    refine jx_aload_n E 0 dX4_letsGo_10 rfl ?_
    refine jx_get E f_X4 6 (v := .ref (a 16)) (wx_town (j := 1) (by decide)) (by decide) wf_X4_33 rfl dX4_letsGo_11 ?_
    refine jx_iload_n E 1 dX4_letsGo_14 rfl ?_
    refine jx_aald E 2 (y := a (5 + 12 * 1 + f.toNat)) (wx_row (j := 1) (by decide)) rfl rfl (by omega) (by omega) (by decide) dX4_letsGo_15 ?_
    refine jx_get E f_X0 4 (v := vI ((x 1) (21 + 5 * f + 4))) (wx_fou (j := 1) (by decide) (by omega) (by omega)) (by decide) wf_X4_79 rfl dX4_letsGo_16 ?_
    refine jx_istore_n E dX4_letsGo_19 (by decide) [(3, vI ((x 1) (21 + 5 * f + 4))), (0, .ref (a 13)), (1, vI f), (2, vI n)] rfl ?_
    refine jx_iconst E dX4_letsGo_20 ?_
    refine jx_istore E dX4_letsGo_21 (by decide) [(4, vI 0), (3, vI ((x 1) (21 + 5 * f + 4))), (0, .ref (a 13)), (1, vI f), (2, vI n)] rfl ?_
    have LP23 : ∀ (n2 : Nat) (k : Nat), ((k : Int) ≤ n) → (n - (k : Int) < n2) → (daysP k (x 1) (21 + 5 * f + 4) = x 1 (21 + 5 * f + 4)) → JX p l e (rmL 5) s m args below meth c 5 G A 0 0 (QE below args s G A ((if vFou (x 1) f then staysI (x 1) f n.toNat else 0)) (fun u9 => wsX G a (setc x 1 u9))) (wsX G a (setc x 1 (daysP k (x 1)))) 23 [(4, vI (k : Int)), (3, vI ((x 1) (21 + 5 * f + 4))), (0, .ref (a 13)), (1, vI f), (2, vI n)] [] := by
      intro n2
      induction n2 with
      | zero => intro k q1 q2 hS0; exfalso; omega
      | succ n2 ih =>
        intro k q1 q2 hS0
        refine jx_iload E 0 dX4_letsGo_23 rfl ?_
        refine jx_iload_n E 4 dX4_letsGo_25 rfl ?_
        refine jx_icmp_ge (tgt := 54) E dX4_letsGo_26 (by decide) (fun c2 => ?_) (fun c2 => ?_)
        · skip
          refine jx_iconst E dX4_letsGo_54 ?_
          exact jx_zretE E hr dX4_letsGo_55 (by rw [if_pos (by omega), staysI, show n.toNat = k by omega, if_pos hS0]) (daysP k (x 1)) rfl (by first | exact Or.inl rfl | exact Or.inr rfl | omega)
        · skip
          refine jx_aload_n E 2 dX4_letsGo_29 rfl ?_
          refine jx_callVv E [] [] (c_X4_passDay_1 l G a (setc x 1 (daysP k (x 1)))  (VT_up (VT_days h1 k) (by omega))) mb_X4_passDay mv_X4_passDay wl_X4_85 f_X4 (wx_town (j := 1) (by decide)) dX4_letsGo_30 ?_
          refine jx_eq (ws' := wsX G a (setc x 1 (dayP (daysP k (x 1))))) (congrArg (wsX G a) (by first | rfl | (rw [setc_setc]; rfl) | exact setc_in _ _ _ _ (by decide) | exact setc_in2 _ _ _ _ _ (by decide) (by decide) | (simp only [setc_setc, setc_at]; done) | (simp only [setc_setc, setc_at]; rfl) | (funext d; simp only [setc_app]; (repeat' split) <;> first | rfl | omega))) ?_
          have hz1 := (VT_days h1 (k + 1)).2.2.2.2.2.2.2 f hvf.1 (by rw [days_4 h1]; exact hvf.2)
          have hz2 := hz1.2.2.2.2
          have hz3 : dayP (daysP k (x 1)) (21 + 5 * f + 4) = daysP (k + 1) (x 1) (21 + 5 * f + 4) := rfl
          have hz4 := st_days h1 hvf 0 (k + 1) (by omega)
          have hz5 : daysP 0 (x 1) (21 + 5 * f + 4) = x 1 (21 + 5 * f + 4) := rfl
          have hz6 := fun q => st_days h1 hvf (k + 1) n.toNat q
          refine jx_aload_n E 2 dX4_letsGo_33 rfl ?_
          refine jx_get E f_X4 6 (v := .ref (a 16)) (wx_town (j := 1) (by decide)) (by decide) wf_X4_33 rfl dX4_letsGo_34 ?_
          refine jx_iload_n E 3 dX4_letsGo_37 rfl ?_
          refine jx_aald E 2 (y := a (5 + 12 * 1 + f.toNat)) (wx_row (j := 1) (by decide)) rfl rfl (by omega) (by omega) (by decide) dX4_letsGo_38 ?_
          refine jx_get E f_X0 4 (v := vI ((dayP (daysP k (x 1))) (21 + 5 * f + 4))) (wx_fou (j := 1) (by decide) (by omega) (by omega)) (by decide) wf_X4_79 (by first | rfl | (simp only [setc_at, List.getElem?_cons_zero, List.getElem?_cons_succ]; done) | (simp [setc_at]; done)) dX4_letsGo_39 ?_
          refine jx_iload_n E 1 dX4_letsGo_42 rfl ?_
          refine jx_icmp_le (tgt := 48) E dX4_letsGo_43 (by decide) (fun c3 => ?_) (fun c3 => ?_)
          · skip
            refine jx_iinc E 0 dX4_letsGo_48 rfl (by decide) [(4, vI ((k : Int) + 1)), (3, vI ((x 1) (21 + 5 * f + 4))), (0, .ref (a 13)), (1, vI f), (2, vI n)] rfl ?_
            refine jx_goto (tgt := 23) E dX4_letsGo_51 (by decide) ?_
            exact ih (k + 1) (by omega) (by omega) (by omega)
          · skip
            refine jx_iconst E dX4_letsGo_46 ?_
            exact jx_zretE E hr dX4_letsGo_47 (by have := hz6 (by omega); rw [if_pos (by omega), staysI, if_neg (by omega)]) (dayP (daysP k (x 1))) rfl (by first | exact Or.inl rfl | exact Or.inr rfl | omega)
    refine jx_eq (ws' := wsX G a (setc x 1 (daysP 0 (x 1)))) (congrArg (wsX G a) (setc_self x 1).symm) ?_
    exact LP23 1001 0 (by omega) (by omega) rfl
  · skip
    refine jx_iconst E dX4_letsGo_8 ?_
    exact jx_zretE E hr dX4_letsGo_9 (by rw [if_neg (by omega)]) (x 1) (congrArg (wsX G a) (setc_self x 1).symm) (by first | exact Or.inl rfl | exact Or.inr rfl | omega)
set_option maxHeartbeats 4000000 in
theorem c_X4_letsAllGo_1 (l : Launch) (G : GT) (a : Nat → Nat) (x : MS) {n : Int} (h1 : VT 1000000 (x 1)) (h2 : 0 ≤ n ∧ n ≤ 1000) : CtE l G yX4_letsAllGo cX4_letsAllGo 4 (some .boolean) 5 [.ref (a 13), vI n] (wsX G a x) (if stoopedP (daysP n.toNat (x 1)) = stoopedP (x 1) then 1 else 0) (fun u9 => wsX G a (setc x 1 u9)) := by
  have hs0 := stooped_in h1
  refine CtE.of (by decide) (Nat.le_of_ble_eq_true rfl) ?_
  intro p e s m args below meth c A E hr
  refine jx_lv (lv' := [(0, .ref (a 13)), (1, vI n)]) [0, 1] rfl ?_
  refine jx_aload_n E 0 dX4_letsAllGo_0 rfl ?_
  refine jx_callVi E [] [] (c_X4_stoopedTogether_1 l G a x  (VT_up h1 (by omega))) mb_X4_stoopedTogether mv_X4_stoopedTogether wl_X4_118 f_X4 (wx_town (j := 1) (by decide)) dX4_letsAllGo_1 ?_
  refine jx_istore_n E dX4_letsAllGo_4 (by decide) [(2, vI (stoopedP (x 1))), (0, .ref (a 13)), (1, vI n)] rfl ?_
  refine jx_iconst E dX4_letsAllGo_5 ?_
  refine jx_istore_n E dX4_letsAllGo_6 (by decide) [(3, vI 0), (2, vI (stoopedP (x 1))), (0, .ref (a 13)), (1, vI n)] rfl ?_
  have LP7 : ∀ (n2 : Nat) (k : Nat), ((k : Int) ≤ n) → (n - (k : Int) < n2) → (stoopedP (daysP k (x 1)) = stoopedP (x 1)) → JX p l e (rmL 5) s m args below meth c 4 G A 0 0 (QE below args s G A ((if stoopedP (daysP n.toNat (x 1)) = stoopedP (x 1) then 1 else 0)) (fun u9 => wsX G a (setc x 1 u9))) (wsX G a (setc x 1 (daysP k (x 1)))) 7 [(3, vI (k : Int)), (2, vI (stoopedP (x 1))), (0, .ref (a 13)), (1, vI n)] [] := by
    intro n2
    induction n2 with
    | zero => intro k q1 q2 hS0; exfalso; omega
    | succ n2 ih =>
      intro k q1 q2 hS0
      refine jx_iload_n E 0 dX4_letsAllGo_7 rfl ?_
      refine jx_iload_n E 3 dX4_letsAllGo_8 rfl ?_
      refine jx_icmp_ge (tgt := 32) E dX4_letsAllGo_9 (by decide) (fun c1 => ?_) (fun c1 => ?_)
      · skip
        refine jx_iconst E dX4_letsAllGo_32 ?_
        exact jx_zretE E hr dX4_letsAllGo_33 (by rw [show n.toNat = k by omega, if_pos hS0]) (daysP k (x 1)) rfl (by first | exact Or.inl rfl | exact Or.inr rfl | omega)
      · skip
        refine jx_aload_n E 2 dX4_letsAllGo_12 rfl ?_
        refine jx_callVv E [] [] (c_X4_passDay_1 l G a (setc x 1 (daysP k (x 1)))  (VT_up (VT_days h1 k) (by omega))) mb_X4_passDay mv_X4_passDay wl_X4_85 f_X4 (wx_town (j := 1) (by decide)) dX4_letsAllGo_13 ?_
        refine jx_eq (ws' := wsX G a (setc x 1 (dayP (daysP k (x 1))))) (congrArg (wsX G a) (by first | rfl | (rw [setc_setc]; rfl) | exact setc_in _ _ _ _ (by decide) | exact setc_in2 _ _ _ _ _ (by decide) (by decide) | (simp only [setc_setc, setc_at]; done) | (simp only [setc_setc, setc_at]; rfl) | (funext d; simp only [setc_app]; (repeat' split) <;> first | rfl | omega))) ?_
        refine jx_aload_n E 2 dX4_letsAllGo_16 rfl ?_
        refine jx_callVi E [] [] (c_X4_stoopedTogether_1 l G a (setc x 1 (dayP (daysP k (x 1))))  (VT_up (VT_days h1 (k + 1)) (by omega))) mb_X4_stoopedTogether mv_X4_stoopedTogether wl_X4_118 f_X4 (wx_town (j := 1) (by decide)) dX4_letsAllGo_17 ?_
        refine jx_st (st' := [vI (stoopedP (dayP (daysP k (x 1))))]) (by first | rfl | (simp only [setc_at]; done) | (simp only [setc_at]; rfl)) ?_
        have hz2 := stooped_in (VT_days h1 (k + 1))
        have hz3 : stoopedP (dayP (daysP k (x 1))) = stoopedP (daysP (k + 1) (x 1)) := rfl
        have hz4 := ss_days h1 0 (k + 1) (by omega)
        have hz5 : stoopedP (daysP 0 (x 1)) = stoopedP (x 1) := rfl
        have hz6 := fun q => ss_days h1 (k + 1) n.toNat q
        refine jx_iload_n E 1 dX4_letsAllGo_20 rfl ?_
        refine jx_icmp_le (tgt := 26) E dX4_letsAllGo_21 (by decide) (fun c2 => ?_) (fun c2 => ?_)
        · skip
          refine jx_iinc E 0 dX4_letsAllGo_26 rfl (by decide) [(3, vI ((k : Int) + 1)), (2, vI (stoopedP (x 1))), (0, .ref (a 13)), (1, vI n)] rfl ?_
          refine jx_goto (tgt := 7) E dX4_letsAllGo_29 (by decide) ?_
          exact ih (k + 1) (by omega) (by omega) (by omega)
        · skip
          refine jx_iconst E dX4_letsAllGo_24 ?_
          exact jx_zretE E hr dX4_letsAllGo_25 (by have := hz6 (by omega); rw [if_neg (by omega)]) (dayP (daysP k (x 1))) rfl (by first | exact Or.inl rfl | exact Or.inr rfl | omega)
  refine jx_eq (ws' := wsX G a (setc x 1 (daysP 0 (x 1)))) (congrArg (wsX G a) (setc_self x 1).symm) ?_
  exact LP7 1001 0 (by omega) (by omega) rfl
set_option maxHeartbeats 4000000 in
theorem c_X4_goesBy_1 (l : Launch) (G : GT) (a : Nat → Nat) (x : MS) {sh : Int} (h1 : VT 1000000 (x 1)) (h2 : 0 ≤ sh ∧ sh < 4) (h3 : VS (x 9 (7 + 2 * sh)) (x 9 (8 + 2 * sh)) (shX x sh)) : CtE l G yX4_goesBy cX4_goesBy 3 (some .boolean) 5 [.ref (a 13), .ref (a (41 + 2 * sh.toNat))] (wsX G a x) (bkF (fun k => (x 5) (40 * sh + k)) (x 1) ((x 9) (8 + 2 * sh)).toNat) (fun u9 => wsX G a (setc x 1 u9)) := by
  obtain ⟨z1, z2, z3, z4, z5⟩ := id h3
  refine CtE.of (by decide) (Nat.le_of_ble_eq_true rfl) ?_
  intro p e s m args below meth c A E hr
  refine jx_lv (lv' := [(0, .ref (a 13)), (1, .ref (a (41 + 2 * sh.toNat)))]) [0, 1] rfl ?_
  refine jx_iconst E dX4_goesBy_0 ?_
  refine jx_istore_n E dX4_goesBy_1 (by decide) [(2, vI 0), (0, .ref (a 13)), (1, .ref (a (41 + 2 * sh.toNat)))] rfl ?_
  have LP2 : ∀ (n2 : Nat) (k : Nat), ((k : Int) ≤ x 9 (8 + 2 * sh)) → (x 9 (8 + 2 * sh) - (k : Int) < n2) → (bkF (shX x sh) (x 1) k = 1) → JX p l e (rmL 5) s m args below meth c 3 G A 0 0 (QE below args s G A (bkF (fun k => (x 5) (40 * sh + k)) (x 1) ((x 9) (8 + 2 * sh)).toNat) (fun u9 => wsX G a (setc x 1 u9))) (wsX G a (setc x 1 (daysP k (x 1)))) 2 [(2, vI (k : Int)), (0, .ref (a 13)), (1, .ref (a (41 + 2 * sh.toNat)))] [] := by
    intro n2
    induction n2 with
    | zero => intro k q1 q2 hS0; exfalso; omega
    | succ n2 ih =>
      intro k q1 q2 hS0
      refine jx_iload_n E 0 dX4_goesBy_2 rfl ?_
      refine jx_aload_n E 2 dX4_goesBy_3 rfl ?_
      refine jx_get E f_X1 1 (v := vI ((x 9) (8 + 2 * sh))) (wx_sht (by omega) (by omega)) (by decide) wf_X4_121 (by first | rfl | (simp only [setc_at, List.getElem?_cons_zero, List.getElem?_cons_succ]; done) | (simp [setc_at]; done)) dX4_goesBy_4 ?_
      refine jx_icmp_ge (tgt := 37) E dX4_goesBy_7 (by decide) (fun c1 => ?_) (fun c1 => ?_)
      · skip
        refine jx_iconst E dX4_goesBy_37 ?_
        exact jx_zretE E hr dX4_goesBy_38 (by show 1 = bkF (shX x sh) (x 1) (x 9 (8 + 2 * sh)).toNat; rw [show (x 9 (8 + 2 * sh)).toNat = k by omega, hS0]) (daysP k (x 1)) rfl (by first | exact Or.inl rfl | exact Or.inr rfl | omega)
      · skip
        have hT1 := (VT_days h1 k).2.1
        have hL : inL (x 5 (40 * sh + (k : Int))) := z5 k (by omega) (by omega)
        unfold inL at hL
        refine jx_aload_n E 2 dX4_goesBy_10 rfl ?_
        refine jx_get E f_X1 2 (v := .ref (a (42 + 2 * sh.toNat))) (wx_sht (by omega) (by omega)) (by decide) wf_X4_126 rfl dX4_goesBy_11 ?_
        refine jx_iload_n E 0 dX4_goesBy_14 rfl ?_
        refine jx_lald E (v := (x 5) (40 * sh + (k : Int))) (wx_nums (by omega) (by omega)) (rowL_at (by omega) (by omega)) (by omega) (by omega) (by decide) dX4_goesBy_15 ?_
        refine jx_aload_n E 1 dX4_goesBy_16 rfl ?_
        refine jx_get E f_X4 1 (v := vI ((daysP k (x 1)) 1)) (wx_town (j := 1) (by decide)) (by decide) wf_X4_15 (by first | rfl | (simp only [setc_at, List.getElem?_cons_zero, List.getElem?_cons_succ]; done) | (simp [setc_at]; done)) dX4_goesBy_17 ?_
        refine jx_i2l E dX4_goesBy_20 ?_
        refine jx_lcmp_eq (tgt := 27) E dX4_goesBy_21 dX4_goesBy_22 (by decide) (fun c2 => ?_) (fun c2 => ?_)
        · skip
          refine jx_aload_n E 1 dX4_goesBy_27 rfl ?_
          refine jx_callVv E [] [] (c_X4_passDay_1 l G a (setc x 1 (daysP k (x 1)))  (VT_up (VT_days h1 k) (by omega))) mb_X4_passDay mv_X4_passDay wl_X4_85 f_X4 (wx_town (j := 1) (by decide)) dX4_goesBy_28 ?_
          refine jx_eq (ws' := wsX G a (setc x 1 (dayP (daysP k (x 1))))) (congrArg (wsX G a) (by first | rfl | (rw [setc_setc]; rfl) | exact setc_in _ _ _ _ (by decide) | exact setc_in2 _ _ _ _ _ (by decide) (by decide) | (simp only [setc_setc, setc_at]; done) | (simp only [setc_setc, setc_at]; rfl) | (funext d; simp only [setc_app]; (repeat' split) <;> first | rfl | omega))) ?_
          refine jx_iinc E 0 dX4_goesBy_31 rfl (by decide) [(2, vI ((k : Int) + 1)), (0, .ref (a 13)), (1, .ref (a (41 + 2 * sh.toNat)))] rfl ?_
          refine jx_goto (tgt := 2) E dX4_goesBy_34 (by decide) ?_
          exact ih (k + 1) (by omega) (by omega) (by simp only [bkF]; rw [if_pos ⟨hS0, show x 5 (40 * sh + (k : Int)) = _ by omega⟩])
        · skip
          refine jx_iconst E dX4_goesBy_25 ?_
          exact jx_zretE E hr dX4_goesBy_26 (by show 0 = bkF (shX x sh) (x 1) (x 9 (8 + 2 * sh)).toNat; have hne : x 5 (40 * sh + (k : Int)) ≠ daysP k (x 1) 1 := (by omega); rw [bk_0 (k := k + 1) (by simp only [bkF]; rw [if_neg (fun q => hne q.2)]) _ (by omega)]) (daysP k (x 1)) rfl (by first | exact Or.inl rfl | exact Or.inr rfl | omega)
  refine jx_eq (ws' := wsX G a (setc x 1 (daysP 0 (x 1)))) (congrArg (wsX G a) (setc_self x 1).symm) ?_
  exact LP2 41 0 (by omega) (by omega) rfl
