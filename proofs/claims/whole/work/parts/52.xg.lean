/-! 52.xg: laid by the walker out of specXG -/
theorem upd2 (f : Int → Int) (k v u : Int) : updI (updI f k v) k u = updI f k u := by funext q; simp only [updI_app]; split <;> rfl
theorem st_ext {w r T : Int → Int} (h2 : T 2 = soP w (r 1) (bgP w (r 1) (r 4))) (h3 : T 3 = bgP w (r 1) (r 4)) (h4 : T 4 = enP w (r 1) (bgP w (r 1) (r 4))) (h5 : T 5 = nuP w (r 1) (bgP w (r 1) (r 4)) (r 5)) (ho : ∀ k, k ≠ 2 → k ≠ 3 → k ≠ 4 → k ≠ 5 → T k = r k) : T = stR w r := by
  funext k
  simp only [stR]
  by_cases k2 : k = 2
  · rw [if_pos k2, k2]; exact h2
  rw [if_neg k2]
  by_cases k3 : k = 3
  · rw [if_pos k3, k3]; exact h3
  rw [if_neg k3]
  by_cases k4 : k = 4
  · rw [if_pos k4, k4]; exact h4
  rw [if_neg k4]
  by_cases k5 : k = 5
  · rw [if_pos k5, k5]; exact h5
  rw [if_neg k5]
  exact ho k k2 k3 k4 k5
theorem tn_no {w r : Int → Int} {lo hi : Int} (h : tnO r lo hi ≠ 1) : tnR w r lo hi = r := by
  unfold tnO at h
  unfold tnR
  rw [if_neg (fun q => h (if_pos q))]
theorem tw_no {w r : Int → Int} {i : Nat} (h : isR w r i ≠ 1) : twR w r i = r := if_neg h
theorem tw_y {w r : Int → Int} {i : Nat} (h : isR w r i = 1) : twR w r i = stR w r := if_pos h
theorem ri_ok (w : Int → Int) (f : Nat) : ∀ {t r : Int → Int}, f ≤ 120 → 0 ≤ t 4 ∧ t 4 ≤ 8 → RG w r → (-121 ≤ (riF w f t r).1 ∧ (riF w f t r).1 ≤ 120) ∧ (0 ≤ (riF w f t r).2.1 4 ∧ (riF w f t r).2.1 4 ≤ 8) := by
  induction f with
  | zero =>
    intro t r hf h4 h
    obtain ⟨⟨a1, a2, -⟩, a3, -⟩ := h
    exact ⟨⟨by show -121 ≤ -1 - r 3; omega, by show -1 - r 3 ≤ 120; omega⟩, h4⟩
  | succ f ih =>
    intro t r hf h4 h
    have a := RO_ti h4 h
    obtain ⟨⟨b1, b2, -⟩, b3, -⟩ := id a.2.2.1
    simp only [riF]
    split
    · split
      · exact ⟨by show -121 ≤ 120 - (f : Int) ∧ 120 - (f : Int) ≤ 120; omega, a.2.1⟩
      · split
        · exact ih (by omega) a.2.1 a.2.2.1.stp
        · exact ⟨by show -121 ≤ -1 - (tiR w t r).2.2 3 ∧ -1 - (tiR w t r).2.2 3 ≤ 120; omega, a.2.1⟩
    · exact ⟨by show -121 ≤ -1 - (tiR w t r).2.2 3 ∧ -1 - (tiR w t r).2.2 3 ≤ 120; omega, a.2.1⟩
set_option maxHeartbeats 4000000 in
theorem c_X3_step (l : Launch) (G : GT) (a : Nat → Nat) (x : MS) (h1 : TG (x 3) (x 9)) : CtV l G yX3_step cX3_step 1 none 2 [.ref (a 39)] (wsX G a x) (wsX G a (setc x 9 (stR (x 3) (x 9)))) := by
  obtain ⟨hn, hp, hw⟩ := id h1
  refine CtV.of (by decide) (Nat.le_of_ble_eq_true rfl) ?_
  intro p e s m args below meth c A E hr
  refine jx_lv (lv' := [(0, .ref (a 39))]) [0] rfl ?_
  refine jx_aload_n E 0 dX3_step_0 rfl ?_
  refine jx_aload_n E 0 dX3_step_1 rfl ?_
  refine jx_get E f_X3 3 (v := vI ((x 9) 4)) wx_read (by decide) wf_X3_18 rfl dX3_step_2 ?_
  refine jx_put E f_X3 2 wx_read (by decide) wf_X3_15 rfl rfl rfl (Nat.le_of_ble_eq_true rfl) wp_read2 dX3_step_5 ?_
  have JN48 : ∀ (bb : Int), (bb = bgP (x 3) (x 9 1) (x 9 4)) → (x 9 4 ≤ bb ∧ bb ≤ x 9 1) → JX p l e (rmL 2) s m args below meth c 1 G A 0 0 (QV below args s G A (wsX G a (setc x 9 (stR (x 3) (x 9))))) (wsX G a (setc x 9 (updI (x 9) 3 bb))) 48 [(0, .ref (a 39))] [] := by
    intro bb hbb hbi
    refine jx_aload_n E 0 dX3_step_48 rfl ?_
    refine jx_aload_n E 0 dX3_step_49 rfl ?_
    refine jx_get E f_X3 2 (v := vI bb) wx_read (by decide) wf_X3_15 (by first | rfl | (simp only [setc_at, List.getElem?_cons_zero, List.getElem?_cons_succ]; done) | (simp [setc_at]; done)) dX3_step_50 ?_
    refine jx_put E f_X3 3 wx_read (by decide) wf_X3_18 rfl rfl rfl (Nat.le_of_ble_eq_true rfl) wp_read3 dX3_step_53 ?_
    refine jx_eq (ws' := wsX G a (setc x 9 (updI (updI (x 9) 3 bb) 4 bb))) (congrArg (wsX G a) (by first | rfl | (rw [setc_setc]; rfl) | exact setc_in _ _ _ _ (by decide) | exact setc_in2 _ _ _ _ _ (by decide) (by decide) | (rw [setc_in _ _ _ _ (by decide), setc_in _ _ _ _ (by decide)]; rfl) | (rw [setc_in _ _ _ _ (by decide), setc_setc]; rfl) | (simp only [setc_setc, setc_at]; done) | (simp only [setc_setc, setc_at]; rfl) | (funext d; simp only [setc_app]; (repeat' split) <;> first | rfl | omega))) ?_
    refine jx_aload_n E 0 dX3_step_56 rfl ?_
    refine jx_get E f_X3 2 (v := vI bb) wx_read (by decide) wf_X3_15 (by first | rfl | (simp only [setc_at, List.getElem?_cons_zero, List.getElem?_cons_succ]; done) | (simp [setc_at]; done)) dX3_step_57 ?_
    refine jx_aload_n E 0 dX3_step_60 rfl ?_
    refine jx_get E f_X3 0 (v := .ref (a 37)) wx_read (by decide) wf_X3_27 rfl dX3_step_61 ?_
    refine jx_get E f_X2 1 (v := vI ((x 9) 1)) wx_tape (by decide) wf_X3_132 (by first | rfl | (simp only [setc_at, List.getElem?_cons_zero, List.getElem?_cons_succ]; done) | (simp [setc_at]; done)) dX3_step_64 ?_
    refine jx_icmp_lt (tgt := 78) E dX3_step_67 (by decide) (fun c1 => ?_) (fun c1 => ?_)
    · skip
      have hbk : byP (x 3) (x 9 1) bb = x 3 bb := if_pos (by omega)
      have hwk := hw bb (by omega) (by omega)
      refine jx_aload_n E 0 dX3_step_78 rfl ?_
      refine jx_aload_n E 0 dX3_step_79 rfl ?_
      refine jx_get E f_X3 2 (v := vI bb) wx_read (by decide) wf_X3_15 (by first | rfl | (simp only [setc_at, List.getElem?_cons_zero, List.getElem?_cons_succ]; done) | (simp [setc_at]; done)) dX3_step_80 ?_
      refine jx_callVi E [vI bb] [] (c_X3_byteAt l G a (setc x 9 (updI (updI (x 9) 3 bb) 4 bb)) (k := bb) (by unfold inR; omega) (show 0 ≤ x 9 1 ∧ x 9 1 ≤ 120 from hn)) mb_X3_byteAt mv_X3_byteAt wl_X3_125 f_X3 wx_read dX3_step_83 ?_
      refine jx_st (st' := [vI (byP (x 3) ((x 9) 1) bb)]) (by first | rfl | (simp only [setc_at]; done) | (simp only [setc_at]; rfl)) ?_
      refine jx_callSi E [vI (byP (x 3) ((x 9) 1) bb)] [] (c_X3_isLetter l G (wsX G a (setc x 9 (updI (updI (x 9) 3 bb) 4 bb))) (v := byP (x 3) ((x 9) 1) bb) (by unfold inR; omega)) mb_X3_isLetter ms_X3_isLetter wl_X3_136 dX3_step_86 ?_
      refine jx_st (st' := [vI (if 97 ≤ (byP (x 3) ((x 9) 1) bb) ∧ (byP (x 3) ((x 9) 1) bb) ≤ 122 then 1 else 0)]) (by first | rfl | (simp only [setc_at]; done) | (simp only [setc_at]; rfl)) ?_
      refine jx_if_eq (tgt := 138) E dX3_step_89 (by decide) (fun c2 => ?_) (fun c2 => ?_)
      · skip
        refine jx_aload_n E 0 dX3_step_138 rfl ?_
        refine jx_aload_n E 0 dX3_step_139 rfl ?_
        refine jx_get E f_X3 2 (v := vI bb) wx_read (by decide) wf_X3_15 (by first | rfl | (simp only [setc_at, List.getElem?_cons_zero, List.getElem?_cons_succ]; done) | (simp [setc_at]; done)) dX3_step_140 ?_
        refine jx_callVi E [vI bb] [] (c_X3_byteAt l G a (setc x 9 (updI (updI (x 9) 3 bb) 4 bb)) (k := bb) (by unfold inR; omega) (show 0 ≤ x 9 1 ∧ x 9 1 ≤ 120 from hn)) mb_X3_byteAt mv_X3_byteAt wl_X3_125 f_X3 wx_read dX3_step_143 ?_
        refine jx_st (st' := [vI (byP (x 3) ((x 9) 1) bb)]) (by first | rfl | (simp only [setc_at]; done) | (simp only [setc_at]; rfl)) ?_
        refine jx_callSi E [vI (byP (x 3) ((x 9) 1) bb)] [] (c_X3_isDigit l G (wsX G a (setc x 9 (updI (updI (x 9) 3 bb) 4 bb))) (v := byP (x 3) ((x 9) 1) bb) (by unfold inR; omega)) mb_X3_isDigit ms_X3_isDigit wl_X3_139 dX3_step_146 ?_
        refine jx_st (st' := [vI (if 48 ≤ (byP (x 3) ((x 9) 1) bb) ∧ (byP (x 3) ((x 9) 1) bb) ≤ 57 then 1 else 0)]) (by first | rfl | (simp only [setc_at]; done) | (simp only [setc_at]; rfl)) ?_
        refine jx_if_eq (tgt := 232) E dX3_step_149 (by decide) (fun c3 => ?_) (fun c3 => ?_)
        · skip
          refine jx_aload_n E 0 dX3_step_232 rfl ?_
          refine jx_aload_n E 0 dX3_step_233 rfl ?_
          refine jx_aload_n E 0 dX3_step_234 rfl ?_
          refine jx_get E f_X3 2 (v := vI bb) wx_read (by decide) wf_X3_15 (by first | rfl | (simp only [setc_at, List.getElem?_cons_zero, List.getElem?_cons_succ]; done) | (simp [setc_at]; done)) dX3_step_235 ?_
          refine jx_callVi E [vI bb] [.ref (a 39)] (c_X3_byteAt l G a (setc x 9 (updI (updI (x 9) 3 bb) 4 bb)) (k := bb) (by unfold inR; omega) (show 0 ≤ x 9 1 ∧ x 9 1 ≤ 120 from hn)) mb_X3_byteAt mv_X3_byteAt wl_X3_125 f_X3 wx_read dX3_step_238 ?_
          refine jx_st (st' := [vI (byP (x 3) ((x 9) 1) bb), .ref (a 39)]) (by first | rfl | (simp only [setc_at]; done) | (simp only [setc_at]; rfl)) ?_
          refine jx_bipush E dX3_step_241 ?_
          refine jx_icmp_ne (tgt := 250) E dX3_step_243 (by decide) (fun c4 => ?_) (fun c4 => ?_)
          · skip
            refine jx_iconst E dX3_step_250 ?_
            refine jx_put E f_X3 1 wx_read (by decide) wf_X3_11 rfl rfl rfl (Nat.le_of_ble_eq_true rfl) wp_read1 dX3_step_251 ?_
            refine jx_eq (ws' := wsX G a (setc x 9 (updI (updI (updI (x 9) 3 bb) 4 bb) 2 4))) (congrArg (wsX G a) (by first | rfl | (rw [setc_setc]; rfl) | exact setc_in _ _ _ _ (by decide) | exact setc_in2 _ _ _ _ _ (by decide) (by decide) | (rw [setc_in _ _ _ _ (by decide), setc_in _ _ _ _ (by decide)]; rfl) | (rw [setc_in _ _ _ _ (by decide), setc_setc]; rfl) | (simp only [setc_setc, setc_at]; done) | (simp only [setc_setc, setc_at]; rfl) | (funext d; simp only [setc_app]; (repeat' split) <;> first | rfl | omega))) ?_
            refine jx_aload_n E 0 dX3_step_254 rfl ?_
            refine jx_aload_n E 0 dX3_step_255 rfl ?_
            refine jx_get E f_X3 2 (v := vI bb) wx_read (by decide) wf_X3_15 (by first | rfl | (simp only [setc_at, List.getElem?_cons_zero, List.getElem?_cons_succ]; done) | (simp [setc_at]; done)) dX3_step_256 ?_
            refine jx_iconst E dX3_step_259 ?_
            refine jx_iadd E dX3_step_260 ?_
            refine jx_put E f_X3 3 wx_read (by decide) wf_X3_18 rfl rfl rfl (Nat.le_of_ble_eq_true rfl) wp_read3 dX3_step_261 ?_
            refine jx_eq (ws' := wsX G a (setc x 9 (updI (updI (updI (updI (x 9) 3 bb) 4 bb) 2 4) 4 (bb + 1)))) (congrArg (wsX G a) (by first | rfl | (rw [setc_setc]; rfl) | exact setc_in _ _ _ _ (by decide) | exact setc_in2 _ _ _ _ _ (by decide) (by decide) | (rw [setc_in _ _ _ _ (by decide), setc_in _ _ _ _ (by decide)]; rfl) | (rw [setc_in _ _ _ _ (by decide), setc_setc]; rfl) | (simp only [setc_setc, setc_at]; done) | (simp only [setc_setc, setc_at]; rfl) | (funext d; simp only [setc_app]; (repeat' split) <;> first | rfl | omega))) ?_
            exact jx_vret E hr dX3_step_264 (congrArg (fun z => wsX G a (setc x 9 z)) (st_ext (by rw [← hbb]; show (4 : Int) = soP (x 3) (x 9 1) bb; unfold soP; omega) (by rw [← hbb]; rfl) (by rw [← hbb]; show bb + 1 = enP (x 3) (x 9 1) bb; unfold enP; rw [if_neg (by omega), if_neg (by omega), if_neg (by omega)]) (by rw [← hbb]; show x 9 5 = nuP _ _ _ _; unfold nuP; rw [if_neg (by unfold soP; omega)]) (fun k a b c d => by simp [updI_app, a, b, c, d])))
          · skip
            refine jx_iconst E dX3_step_246 ?_
            refine jx_goto (tgt := 251) E dX3_step_247 (by decide) ?_
            refine jx_put E f_X3 1 wx_read (by decide) wf_X3_11 rfl rfl rfl (Nat.le_of_ble_eq_true rfl) wp_read1 dX3_step_251 ?_
            refine jx_eq (ws' := wsX G a (setc x 9 (updI (updI (updI (x 9) 3 bb) 4 bb) 2 2))) (congrArg (wsX G a) (by first | rfl | (rw [setc_setc]; rfl) | exact setc_in _ _ _ _ (by decide) | exact setc_in2 _ _ _ _ _ (by decide) (by decide) | (rw [setc_in _ _ _ _ (by decide), setc_in _ _ _ _ (by decide)]; rfl) | (rw [setc_in _ _ _ _ (by decide), setc_setc]; rfl) | (simp only [setc_setc, setc_at]; done) | (simp only [setc_setc, setc_at]; rfl) | (funext d; simp only [setc_app]; (repeat' split) <;> first | rfl | omega))) ?_
            refine jx_aload_n E 0 dX3_step_254 rfl ?_
            refine jx_aload_n E 0 dX3_step_255 rfl ?_
            refine jx_get E f_X3 2 (v := vI bb) wx_read (by decide) wf_X3_15 (by first | rfl | (simp only [setc_at, List.getElem?_cons_zero, List.getElem?_cons_succ]; done) | (simp [setc_at]; done)) dX3_step_256 ?_
            refine jx_iconst E dX3_step_259 ?_
            refine jx_iadd E dX3_step_260 ?_
            refine jx_put E f_X3 3 wx_read (by decide) wf_X3_18 rfl rfl rfl (Nat.le_of_ble_eq_true rfl) wp_read3 dX3_step_261 ?_
            refine jx_eq (ws' := wsX G a (setc x 9 (updI (updI (updI (updI (x 9) 3 bb) 4 bb) 2 2) 4 (bb + 1)))) (congrArg (wsX G a) (by first | rfl | (rw [setc_setc]; rfl) | exact setc_in _ _ _ _ (by decide) | exact setc_in2 _ _ _ _ _ (by decide) (by decide) | (rw [setc_in _ _ _ _ (by decide), setc_in _ _ _ _ (by decide)]; rfl) | (rw [setc_in _ _ _ _ (by decide), setc_setc]; rfl) | (simp only [setc_setc, setc_at]; done) | (simp only [setc_setc, setc_at]; rfl) | (funext d; simp only [setc_app]; (repeat' split) <;> first | rfl | omega))) ?_
            exact jx_vret E hr dX3_step_264 (congrArg (fun z => wsX G a (setc x 9 z)) (st_ext (by rw [← hbb]; show (2 : Int) = soP (x 3) (x 9 1) bb; unfold soP; omega) (by rw [← hbb]; rfl) (by rw [← hbb]; show bb + 1 = enP (x 3) (x 9 1) bb; unfold enP; rw [if_neg (by omega), if_neg (by omega), if_neg (by omega)]) (by rw [← hbb]; show x 9 5 = nuP _ _ _ _; unfold nuP; rw [if_neg (by unfold soP; omega)]) (fun k a b c d => by simp [updI_app, a, b, c, d])))
        · skip
          refine jx_aload_n E 0 dX3_step_152 rfl ?_
          refine jx_iconst E dX3_step_153 ?_
          refine jx_put E f_X3 1 wx_read (by decide) wf_X3_11 rfl rfl rfl (Nat.le_of_ble_eq_true rfl) wp_read1 dX3_step_154 ?_
          refine jx_eq (ws' := wsX G a (setc x 9 (updI (updI (updI (x 9) 3 bb) 4 bb) 2 1))) (congrArg (wsX G a) (by first | rfl | (rw [setc_setc]; rfl) | exact setc_in _ _ _ _ (by decide) | exact setc_in2 _ _ _ _ _ (by decide) (by decide) | (rw [setc_in _ _ _ _ (by decide), setc_in _ _ _ _ (by decide)]; rfl) | (rw [setc_in _ _ _ _ (by decide), setc_setc]; rfl) | (simp only [setc_setc, setc_at]; done) | (simp only [setc_setc, setc_at]; rfl) | (funext d; simp only [setc_app]; (repeat' split) <;> first | rfl | omega))) ?_
          refine jx_aload_n E 0 dX3_step_157 rfl ?_
          refine jx_iconst E dX3_step_158 ?_
          refine jx_put E f_X3 4 wx_read (by decide) wf_X3_21 rfl rfl rfl (Nat.le_of_ble_eq_true rfl) wp_read4 dX3_step_159 ?_
          refine jx_eq (ws' := wsX G a (setc x 9 (updI (updI (updI (updI (x 9) 3 bb) 4 bb) 2 1) 5 0))) (congrArg (wsX G a) (by first | rfl | (rw [setc_setc]; rfl) | exact setc_in _ _ _ _ (by decide) | exact setc_in2 _ _ _ _ _ (by decide) (by decide) | (rw [setc_in _ _ _ _ (by decide), setc_in _ _ _ _ (by decide)]; rfl) | (rw [setc_in _ _ _ _ (by decide), setc_setc]; rfl) | (simp only [setc_setc, setc_at]; done) | (simp only [setc_setc, setc_at]; rfl) | (funext d; simp only [setc_app]; (repeat' split) <;> first | rfl | omega))) ?_
          have LP162 : ∀ (n2 : Nat) (k : Int) (v : Int), (bb ≤ k ∧ k ≤ x 9 1) → (scP 48 57 (x 3) (x 9 1) k = scP 48 57 (x 3) (x 9 1) bb) → (x 9 1 - k < n2) → (vlP (x 3) (x 9 1) k v = vlP (x 3) (x 9 1) bb 0) → (0 ≤ v ∧ v ≤ 10000) → JX p l e (rmL 2) s m args below meth c 1 G A 0 0 (QV below args s G A (wsX G a (setc x 9 (stR (x 3) (x 9))))) (wsX G a (setc x 9 (updI (updI (updI (updI (x 9) 3 bb) 2 1) 4 k) 5 v))) 162 [(0, .ref (a 39))] [] := by
            intro n2
            induction n2 with
            | zero => intro k v q1 q2 q3 q4 q5; exfalso; omega
            | succ n2 ih =>
              intro k v q1 q2 q3 q4 q5
              refine jx_aload_n E 0 dX3_step_162 rfl ?_
              refine jx_get E f_X3 3 (v := vI k) wx_read (by decide) wf_X3_18 (by first | rfl | (simp only [setc_at, List.getElem?_cons_zero, List.getElem?_cons_succ]; done) | (simp [setc_at]; done)) dX3_step_163 ?_
              refine jx_aload_n E 0 dX3_step_166 rfl ?_
              refine jx_get E f_X3 0 (v := .ref (a 37)) wx_read (by decide) wf_X3_27 rfl dX3_step_167 ?_
              refine jx_get E f_X2 1 (v := vI ((x 9) 1)) wx_tape (by decide) wf_X3_132 (by first | rfl | (simp only [setc_at, List.getElem?_cons_zero, List.getElem?_cons_succ]; done) | (simp [setc_at]; done)) dX3_step_170 ?_
              refine jx_icmp_ge (tgt := 264) E dX3_step_173 (by decide) (fun c5 => ?_) (fun c5 => ?_)
              · skip
                exact jx_vret E hr dX3_step_264 (congrArg (fun z => wsX G a (setc x 9 z)) (st_ext (by rw [← hbb]; show (1 : Int) = soP (x 3) (x 9 1) bb; unfold soP; omega) (by rw [← hbb]; rfl) (by rw [← hbb]; show k = enP (x 3) (x 9 1) bb; unfold enP; rw [if_neg (by omega), if_neg (by omega), if_pos (by omega), ← q2]; exact (sc_n (by omega)).symm) (by rw [← hbb]; show v = nuP _ _ _ _; unfold nuP; rw [if_pos (by unfold soP; omega), ← q4]; exact (vl_n (by omega)).symm) (fun k a b c d => by simp [updI_app, a, b, c, d])))
              · skip
                have hbk : byP (x 3) (x 9 1) k = x 3 k := if_pos (by omega)
                have hwk := hw k (by omega) (by omega)
                refine jx_aload_n E 0 dX3_step_176 rfl ?_
                refine jx_aload_n E 0 dX3_step_177 rfl ?_
                refine jx_get E f_X3 3 (v := vI k) wx_read (by decide) wf_X3_18 (by first | rfl | (simp only [setc_at, List.getElem?_cons_zero, List.getElem?_cons_succ]; done) | (simp [setc_at]; done)) dX3_step_178 ?_
                refine jx_callVi E [vI k] [] (c_X3_byteAt l G a (setc x 9 (updI (updI (updI (updI (x 9) 3 bb) 2 1) 4 k) 5 v)) (k := k) (by unfold inR; omega) (show 0 ≤ x 9 1 ∧ x 9 1 ≤ 120 from hn)) mb_X3_byteAt mv_X3_byteAt wl_X3_125 f_X3 wx_read dX3_step_181 ?_
                refine jx_st (st' := [vI (byP (x 3) ((x 9) 1) k)]) (by first | rfl | (simp only [setc_at]; done) | (simp only [setc_at]; rfl)) ?_
                refine jx_callSi E [vI (byP (x 3) ((x 9) 1) k)] [] (c_X3_isDigit l G (wsX G a (setc x 9 (updI (updI (updI (updI (x 9) 3 bb) 2 1) 4 k) 5 v))) (v := byP (x 3) ((x 9) 1) k) (by unfold inR; omega)) mb_X3_isDigit ms_X3_isDigit wl_X3_139 dX3_step_184 ?_
                refine jx_st (st' := [vI (if 48 ≤ (byP (x 3) ((x 9) 1) k) ∧ (byP (x 3) ((x 9) 1) k) ≤ 57 then 1 else 0)]) (by first | rfl | (simp only [setc_at]; done) | (simp only [setc_at]; rfl)) ?_
                refine jx_if_eq (tgt := 264) E dX3_step_187 (by decide) (fun c6 => ?_) (fun c6 => ?_)
                · skip
                  exact jx_vret E hr dX3_step_264 (congrArg (fun z => wsX G a (setc x 9 z)) (st_ext (by rw [← hbb]; show (1 : Int) = soP (x 3) (x 9 1) bb; unfold soP; omega) (by rw [← hbb]; rfl) (by rw [← hbb]; show k = enP (x 3) (x 9 1) bb; unfold enP; rw [if_neg (by omega), if_neg (by omega), if_pos (by omega), ← q2]; exact (sc_n (by omega)).symm) (by rw [← hbb]; show v = nuP _ _ _ _; unfold nuP; rw [if_pos (by unfold soP; omega), ← q4]; exact (vl_n (by omega)).symm) (fun k a b c d => by simp [updI_app, a, b, c, d])))
                · skip
                  refine jx_aload_n E 0 dX3_step_190 rfl ?_
                  refine jx_sipush E dX3_step_191 ?_
                  refine jx_aload_n E 0 dX3_step_194 rfl ?_
                  refine jx_get E f_X3 4 (v := vI v) wx_read (by decide) wf_X3_21 (by first | rfl | (simp only [setc_at, List.getElem?_cons_zero, List.getElem?_cons_succ]; done) | (simp [setc_at]; done)) dX3_step_195 ?_
                  refine jx_bipush E dX3_step_198 ?_
                  refine jx_imul E dX3_step_200 ?_
                  refine jx_aload_n E 0 dX3_step_201 rfl ?_
                  refine jx_aload_n E 0 dX3_step_202 rfl ?_
                  refine jx_get E f_X3 3 (v := vI k) wx_read (by decide) wf_X3_18 (by first | rfl | (simp only [setc_at, List.getElem?_cons_zero, List.getElem?_cons_succ]; done) | (simp [setc_at]; done)) dX3_step_203 ?_
                  refine jx_callVi E [vI k] [vI (v * 10), vI 10000, .ref (a 39)] (c_X3_byteAt l G a (setc x 9 (updI (updI (updI (updI (x 9) 3 bb) 2 1) 4 k) 5 v)) (k := k) (by unfold inR; omega) (show 0 ≤ x 9 1 ∧ x 9 1 ≤ 120 from hn)) mb_X3_byteAt mv_X3_byteAt wl_X3_125 f_X3 wx_read dX3_step_206 ?_
                  refine jx_st (st' := [vI (byP (x 3) ((x 9) 1) k), vI (v * 10), vI 10000, .ref (a 39)]) (by first | rfl | (simp only [setc_at]; done) | (simp only [setc_at]; rfl)) ?_
                  refine jx_iadd E dX3_step_209 ?_
                  refine jx_bipush E dX3_step_210 ?_
                  refine jx_isub E dX3_step_212 ?_
                  refine jx_min E wl_X3_142 mm_min dX3_step_213 ?_
                  refine jx_put E f_X3 4 wx_read (by decide) wf_X3_21 rfl rfl rfl (Nat.le_of_ble_eq_true rfl) wp_read4 dX3_step_216 ?_
                  refine jx_eq (ws' := wsX G a (setc x 9 (updI (updI (updI (updI (updI (x 9) 3 bb) 2 1) 4 k) 5 v) 5 (min 10000 (((v * 10) + (byP (x 3) ((x 9) 1) k)) - 48))))) (congrArg (wsX G a) (by first | rfl | (rw [setc_setc]; rfl) | exact setc_in _ _ _ _ (by decide) | exact setc_in2 _ _ _ _ _ (by decide) (by decide) | (rw [setc_in _ _ _ _ (by decide), setc_in _ _ _ _ (by decide)]; rfl) | (rw [setc_in _ _ _ _ (by decide), setc_setc]; rfl) | (simp only [setc_setc, setc_at]; done) | (simp only [setc_setc, setc_at]; rfl) | (funext d; simp only [setc_app]; (repeat' split) <;> first | rfl | omega))) ?_
                  refine jx_aload_n E 0 dX3_step_219 rfl ?_
                  refine jx_dup E dX3_step_220 ?_
                  refine jx_get E f_X3 3 (v := vI k) wx_read (by decide) wf_X3_18 (by first | rfl | (simp only [setc_at, List.getElem?_cons_zero, List.getElem?_cons_succ]; done) | (simp [setc_at]; done)) dX3_step_221 ?_
                  refine jx_iconst E dX3_step_224 ?_
                  refine jx_iadd E dX3_step_225 ?_
                  refine jx_put E f_X3 3 wx_read (by decide) wf_X3_18 rfl rfl rfl (Nat.le_of_ble_eq_true rfl) wp_read3 dX3_step_226 ?_
                  refine jx_eq (ws' := wsX G a (setc x 9 (updI (updI (updI (updI (updI (updI (x 9) 3 bb) 2 1) 4 k) 5 v) 5 (min 10000 (((v * 10) + (byP (x 3) ((x 9) 1) k)) - 48))) 4 (k + 1)))) (congrArg (wsX G a) (by first | rfl | (rw [setc_setc]; rfl) | exact setc_in _ _ _ _ (by decide) | exact setc_in2 _ _ _ _ _ (by decide) (by decide) | (rw [setc_in _ _ _ _ (by decide), setc_in _ _ _ _ (by decide)]; rfl) | (rw [setc_in _ _ _ _ (by decide), setc_setc]; rfl) | (simp only [setc_setc, setc_at]; done) | (simp only [setc_setc, setc_at]; rfl) | (funext d; simp only [setc_app]; (repeat' split) <;> first | rfl | omega))) ?_
                  refine jx_goto (tgt := 162) E dX3_step_229 (by decide) ?_
                  refine jx_eq (ws' := wsX G a (setc x 9 (updI (updI (updI (updI (x 9) 3 bb) 2 1) 4 (k + 1)) 5 (min 10000 (v * 10 + x 3 k - 48))))) (congrArg (fun z => wsX G a (setc x 9 z)) (by rw [hbk]; funext q9; simp only [updI_app]; (repeat' split) <;> first | rfl | omega)) ?_
                  exact ih (k + 1) _ (by omega) (by rw [sc_y (by omega)]; exact q2) (by omega) (by rw [vl_y (by omega)]; exact q4) (by omega)
          refine jx_eq (ws' := wsX G a (setc x 9 (updI (updI (updI (updI (x 9) 3 bb) 2 1) 4 bb) 5 0))) (congrArg (fun z => wsX G a (setc x 9 z)) (by funext q9; simp only [updI_app]; (repeat' split) <;> first | rfl | omega)) ?_
          exact LP162 121 bb 0 (by omega) rfl (by omega) rfl (by omega)
      · skip
        refine jx_aload_n E 0 dX3_step_92 rfl ?_
        refine jx_iconst E dX3_step_93 ?_
        refine jx_put E f_X3 1 wx_read (by decide) wf_X3_11 rfl rfl rfl (Nat.le_of_ble_eq_true rfl) wp_read1 dX3_step_94 ?_
        refine jx_eq (ws' := wsX G a (setc x 9 (updI (updI (updI (x 9) 3 bb) 4 bb) 2 0))) (congrArg (wsX G a) (by first | rfl | (rw [setc_setc]; rfl) | exact setc_in _ _ _ _ (by decide) | exact setc_in2 _ _ _ _ _ (by decide) (by decide) | (rw [setc_in _ _ _ _ (by decide), setc_in _ _ _ _ (by decide)]; rfl) | (rw [setc_in _ _ _ _ (by decide), setc_setc]; rfl) | (simp only [setc_setc, setc_at]; done) | (simp only [setc_setc, setc_at]; rfl) | (funext d; simp only [setc_app]; (repeat' split) <;> first | rfl | omega))) ?_
        have LP97 : ∀ (n2 : Nat) (k : Int), (bb ≤ k ∧ k ≤ x 9 1) → (scP 97 122 (x 3) (x 9 1) k = scP 97 122 (x 3) (x 9 1) bb) → (x 9 1 - k < n2) → JX p l e (rmL 2) s m args below meth c 1 G A 0 0 (QV below args s G A (wsX G a (setc x 9 (stR (x 3) (x 9))))) (wsX G a (setc x 9 (updI (updI (updI (x 9) 3 bb) 2 0) 4 k))) 97 [(0, .ref (a 39))] [] := by
          intro n2
          induction n2 with
          | zero => intro k q1 q2 q3; exfalso; omega
          | succ n2 ih =>
            intro k q1 q2 q3
            refine jx_aload_n E 0 dX3_step_97 rfl ?_
            refine jx_get E f_X3 3 (v := vI k) wx_read (by decide) wf_X3_18 (by first | rfl | (simp only [setc_at, List.getElem?_cons_zero, List.getElem?_cons_succ]; done) | (simp [setc_at]; done)) dX3_step_98 ?_
            refine jx_aload_n E 0 dX3_step_101 rfl ?_
            refine jx_get E f_X3 0 (v := .ref (a 37)) wx_read (by decide) wf_X3_27 rfl dX3_step_102 ?_
            refine jx_get E f_X2 1 (v := vI ((x 9) 1)) wx_tape (by decide) wf_X3_132 (by first | rfl | (simp only [setc_at, List.getElem?_cons_zero, List.getElem?_cons_succ]; done) | (simp [setc_at]; done)) dX3_step_105 ?_
            refine jx_icmp_ge (tgt := 264) E dX3_step_108 (by decide) (fun c7 => ?_) (fun c7 => ?_)
            · skip
              exact jx_vret E hr dX3_step_264 (congrArg (fun z => wsX G a (setc x 9 z)) (st_ext (by rw [← hbb]; show (0 : Int) = soP (x 3) (x 9 1) bb; unfold soP; omega) (by rw [← hbb]; rfl) (by rw [← hbb]; show k = enP (x 3) (x 9 1) bb; unfold enP; rw [if_neg (by omega), if_pos (by omega), ← q2]; exact (sc_n (by omega)).symm) (by rw [← hbb]; show x 9 5 = nuP _ _ _ _; unfold nuP; rw [if_neg (by unfold soP; omega)]) (fun k a b c d => by simp [updI_app, a, b, c, d])))
            · skip
              have hbk : byP (x 3) (x 9 1) k = x 3 k := if_pos (by omega)
              have hwk := hw k (by omega) (by omega)
              refine jx_aload_n E 0 dX3_step_111 rfl ?_
              refine jx_aload_n E 0 dX3_step_112 rfl ?_
              refine jx_get E f_X3 3 (v := vI k) wx_read (by decide) wf_X3_18 (by first | rfl | (simp only [setc_at, List.getElem?_cons_zero, List.getElem?_cons_succ]; done) | (simp [setc_at]; done)) dX3_step_113 ?_
              refine jx_callVi E [vI k] [] (c_X3_byteAt l G a (setc x 9 (updI (updI (updI (x 9) 3 bb) 2 0) 4 k)) (k := k) (by unfold inR; omega) (show 0 ≤ x 9 1 ∧ x 9 1 ≤ 120 from hn)) mb_X3_byteAt mv_X3_byteAt wl_X3_125 f_X3 wx_read dX3_step_116 ?_
              refine jx_st (st' := [vI (byP (x 3) ((x 9) 1) k)]) (by first | rfl | (simp only [setc_at]; done) | (simp only [setc_at]; rfl)) ?_
              refine jx_callSi E [vI (byP (x 3) ((x 9) 1) k)] [] (c_X3_isLetter l G (wsX G a (setc x 9 (updI (updI (updI (x 9) 3 bb) 2 0) 4 k))) (v := byP (x 3) ((x 9) 1) k) (by unfold inR; omega)) mb_X3_isLetter ms_X3_isLetter wl_X3_136 dX3_step_119 ?_
              refine jx_st (st' := [vI (if 97 ≤ (byP (x 3) ((x 9) 1) k) ∧ (byP (x 3) ((x 9) 1) k) ≤ 122 then 1 else 0)]) (by first | rfl | (simp only [setc_at]; done) | (simp only [setc_at]; rfl)) ?_
              refine jx_if_eq (tgt := 264) E dX3_step_122 (by decide) (fun c8 => ?_) (fun c8 => ?_)
              · skip
                exact jx_vret E hr dX3_step_264 (congrArg (fun z => wsX G a (setc x 9 z)) (st_ext (by rw [← hbb]; show (0 : Int) = soP (x 3) (x 9 1) bb; unfold soP; omega) (by rw [← hbb]; rfl) (by rw [← hbb]; show k = enP (x 3) (x 9 1) bb; unfold enP; rw [if_neg (by omega), if_pos (by omega), ← q2]; exact (sc_n (by omega)).symm) (by rw [← hbb]; show x 9 5 = nuP _ _ _ _; unfold nuP; rw [if_neg (by unfold soP; omega)]) (fun k a b c d => by simp [updI_app, a, b, c, d])))
              · skip
                refine jx_aload_n E 0 dX3_step_125 rfl ?_
                refine jx_dup E dX3_step_126 ?_
                refine jx_get E f_X3 3 (v := vI k) wx_read (by decide) wf_X3_18 (by first | rfl | (simp only [setc_at, List.getElem?_cons_zero, List.getElem?_cons_succ]; done) | (simp [setc_at]; done)) dX3_step_127 ?_
                refine jx_iconst E dX3_step_130 ?_
                refine jx_iadd E dX3_step_131 ?_
                refine jx_put E f_X3 3 wx_read (by decide) wf_X3_18 rfl rfl rfl (Nat.le_of_ble_eq_true rfl) wp_read3 dX3_step_132 ?_
                refine jx_eq (ws' := wsX G a (setc x 9 (updI (updI (updI (updI (x 9) 3 bb) 2 0) 4 k) 4 (k + 1)))) (congrArg (wsX G a) (by first | rfl | (rw [setc_setc]; rfl) | exact setc_in _ _ _ _ (by decide) | exact setc_in2 _ _ _ _ _ (by decide) (by decide) | (rw [setc_in _ _ _ _ (by decide), setc_in _ _ _ _ (by decide)]; rfl) | (rw [setc_in _ _ _ _ (by decide), setc_setc]; rfl) | (simp only [setc_setc, setc_at]; done) | (simp only [setc_setc, setc_at]; rfl) | (funext d; simp only [setc_app]; (repeat' split) <;> first | rfl | omega))) ?_
                refine jx_goto (tgt := 97) E dX3_step_135 (by decide) ?_
                refine jx_eq (ws' := wsX G a (setc x 9 (updI (updI (updI (x 9) 3 bb) 2 0) 4 (k + 1)))) (congrArg (fun z => wsX G a (setc x 9 z)) (upd2 _ _ _ _)) ?_
                exact ih (k + 1) (by omega) (by rw [sc_y (by omega)]; exact q2) (by omega)
        refine jx_eq (ws' := wsX G a (setc x 9 (updI (updI (updI (x 9) 3 bb) 2 0) 4 bb))) (congrArg (fun z => wsX G a (setc x 9 z)) (by funext q9; simp only [updI_app]; (repeat' split) <;> first | rfl | omega)) ?_
        exact LP97 121 bb (by omega) rfl (by omega)
    · skip
      refine jx_aload_n E 0 dX3_step_70 rfl ?_
      refine jx_iconst E dX3_step_71 ?_
      refine jx_put E f_X3 1 wx_read (by decide) wf_X3_11 rfl rfl rfl (Nat.le_of_ble_eq_true rfl) wp_read1 dX3_step_72 ?_
      refine jx_eq (ws' := wsX G a (setc x 9 (updI (updI (updI (x 9) 3 bb) 4 bb) 2 3))) (congrArg (wsX G a) (by first | rfl | (rw [setc_setc]; rfl) | exact setc_in _ _ _ _ (by decide) | exact setc_in2 _ _ _ _ _ (by decide) (by decide) | (rw [setc_in _ _ _ _ (by decide), setc_in _ _ _ _ (by decide)]; rfl) | (rw [setc_in _ _ _ _ (by decide), setc_setc]; rfl) | (simp only [setc_setc, setc_at]; done) | (simp only [setc_setc, setc_at]; rfl) | (funext d; simp only [setc_app]; (repeat' split) <;> first | rfl | omega))) ?_
      refine jx_goto (tgt := 264) E dX3_step_75 (by decide) ?_
      exact jx_vret E hr dX3_step_264 (congrArg (fun z => wsX G a (setc x 9 z)) (st_ext (by rw [← hbb]; show (3 : Int) = soP (x 3) (x 9 1) bb; unfold soP; omega) (by rw [← hbb]; rfl) (by rw [← hbb]; show bb = enP (x 3) (x 9 1) bb; unfold enP; rw [if_pos (by omega)]) (by rw [← hbb]; show x 9 5 = nuP _ _ _ _; unfold nuP; rw [if_neg (by unfold soP; omega)]) (fun k a b c d => by simp [updI_app, a, b, c, d])))
  have LP8 : ∀ (n2 : Nat) (k : Int), (x 9 4 ≤ k ∧ k ≤ x 9 1) → (scP 32 32 (x 3) (x 9 1) k = bgP (x 3) (x 9 1) (x 9 4)) → (x 9 1 - k < n2) → JX p l e (rmL 2) s m args below meth c 1 G A 0 0 (QV below args s G A (wsX G a (setc x 9 (stR (x 3) (x 9))))) (wsX G a (setc x 9 (updI (x 9) 3 k))) 8 [(0, .ref (a 39))] [] := by
    intro n2
    induction n2 with
    | zero => intro k q1 q2 q3; exfalso; omega
    | succ n2 ih =>
      intro k q1 q2 q3
      refine jx_aload_n E 0 dX3_step_8 rfl ?_
      refine jx_get E f_X3 2 (v := vI k) wx_read (by decide) wf_X3_15 (by first | rfl | (simp only [setc_at, List.getElem?_cons_zero, List.getElem?_cons_succ]; done) | (simp [setc_at]; done)) dX3_step_9 ?_
      refine jx_aload_n E 0 dX3_step_12 rfl ?_
      refine jx_get E f_X3 0 (v := .ref (a 37)) wx_read (by decide) wf_X3_27 rfl dX3_step_13 ?_
      refine jx_get E f_X2 1 (v := vI ((x 9) 1)) wx_tape (by decide) wf_X3_132 (by first | rfl | (simp only [setc_at, List.getElem?_cons_zero, List.getElem?_cons_succ]; done) | (simp [setc_at]; done)) dX3_step_16 ?_
      refine jx_icmp_ge (tgt := 48) E dX3_step_19 (by decide) (fun c9 => ?_) (fun c9 => ?_)
      · skip
        exact JN48 k (by rw [← q2]; exact (sc_n (by omega)).symm) (by omega)
      · skip
        have hbk : byP (x 3) (x 9 1) k = x 3 k := if_pos (by omega)
        have hwk := hw k (by omega) (by omega)
        refine jx_aload_n E 0 dX3_step_22 rfl ?_
        refine jx_aload_n E 0 dX3_step_23 rfl ?_
        refine jx_get E f_X3 2 (v := vI k) wx_read (by decide) wf_X3_15 (by first | rfl | (simp only [setc_at, List.getElem?_cons_zero, List.getElem?_cons_succ]; done) | (simp [setc_at]; done)) dX3_step_24 ?_
        refine jx_callVi E [vI k] [] (c_X3_byteAt l G a (setc x 9 (updI (x 9) 3 k)) (k := k) (by unfold inR; omega) (show 0 ≤ x 9 1 ∧ x 9 1 ≤ 120 from hn)) mb_X3_byteAt mv_X3_byteAt wl_X3_125 f_X3 wx_read dX3_step_27 ?_
        refine jx_st (st' := [vI (byP (x 3) ((x 9) 1) k)]) (by first | rfl | (simp only [setc_at]; done) | (simp only [setc_at]; rfl)) ?_
        refine jx_bipush E dX3_step_30 ?_
        refine jx_icmp_ne (tgt := 48) E dX3_step_32 (by decide) (fun c10 => ?_) (fun c10 => ?_)
        · skip
          exact JN48 k (by rw [← q2]; exact (sc_n (by omega)).symm) (by omega)
        · skip
          refine jx_aload_n E 0 dX3_step_35 rfl ?_
          refine jx_dup E dX3_step_36 ?_
          refine jx_get E f_X3 2 (v := vI k) wx_read (by decide) wf_X3_15 (by first | rfl | (simp only [setc_at, List.getElem?_cons_zero, List.getElem?_cons_succ]; done) | (simp [setc_at]; done)) dX3_step_37 ?_
          refine jx_iconst E dX3_step_40 ?_
          refine jx_iadd E dX3_step_41 ?_
          refine jx_put E f_X3 2 wx_read (by decide) wf_X3_15 rfl rfl rfl (Nat.le_of_ble_eq_true rfl) wp_read2 dX3_step_42 ?_
          refine jx_eq (ws' := wsX G a (setc x 9 (updI (updI (x 9) 3 k) 3 (k + 1)))) (congrArg (wsX G a) (by first | rfl | (rw [setc_setc]; rfl) | exact setc_in _ _ _ _ (by decide) | exact setc_in2 _ _ _ _ _ (by decide) (by decide) | (rw [setc_in _ _ _ _ (by decide), setc_in _ _ _ _ (by decide)]; rfl) | (rw [setc_in _ _ _ _ (by decide), setc_setc]; rfl) | (simp only [setc_setc, setc_at]; done) | (simp only [setc_setc, setc_at]; rfl) | (funext d; simp only [setc_app]; (repeat' split) <;> first | rfl | omega))) ?_
          refine jx_goto (tgt := 8) E dX3_step_45 (by decide) ?_
          refine jx_eq (ws' := wsX G a (setc x 9 (updI (x 9) 3 (k + 1)))) (congrArg (fun z => wsX G a (setc x 9 z)) (upd2 _ _ _ _)) ?_
          exact ih (k + 1) (by omega) (by rw [sc_y (by omega)]; exact q2) (by omega)
  exact LP8 121 (x 9 4) (by omega) rfl (by omega)
set_option maxHeartbeats 4000000 in
theorem c_X3_isWord (l : Launch) (G : GT) (a : Nat → Nat) (x : MS) {wi : Nat} (h1 : wi < 13) (h2 : RG (x 3) (x 9)) : CtI l G yX3_isWord cX3_isWord 3 (some .boolean) 5 [.ref (a 39), .ref (G.2.2 (2 + wi))] (wsX G a x) (isR (x 3) (x 9) wi) (wsX G a x) := by
  obtain ⟨⟨hn, hp, hw⟩, h3s, h2s, h5s, hlt, hse⟩ := id h2
  have hlen := (nm_len wi h1).1
  have hlw : lenW wi = ((sw_len.getD wi 0 : Nat) : Int) := rfl
  refine CtI.of (by decide) (Nat.le_of_ble_eq_true rfl) ?_
  intro p e s m args below meth c A E hr
  refine jx_lv (lv' := [(0, .ref (a 39)), (1, .ref (G.2.2 (2 + wi)))]) [0, 1] rfl ?_
  refine jx_aload_n E 0 dX3_isWord_0 rfl ?_
  refine jx_get E f_X3 1 (v := vI ((x 9) 2)) wx_read (by decide) wf_X3_11 rfl dX3_isWord_1 ?_
  refine jx_if_ne (tgt := 23) E dX3_isWord_4 (by decide) (fun c1 => ?_) (fun c1 => ?_)
  · skip
    refine jx_iconst E dX3_isWord_23 ?_
    exact jx_zret E hr dX3_isWord_24 (by simp only [isR, isW]; omega) (by first | rfl | (congr 1; done)) (by first | exact Or.inl rfl | exact Or.inr rfl | omega)
  · skip
    refine jx_aload_n E 1 dX3_isWord_7 rfl ?_
    refine jx_callKi E wi (by omega) rfl [] [] (c_J0_length_8abf5 l G (wsX G a x) (i := wi) (by omega)) mb_J0_length_8abf5 mv_J0_length_8abf5 wl_X3_120 dX3_isWord_8 ?_
    refine jx_aload_n E 0 dX3_isWord_11 rfl ?_
    refine jx_get E f_X3 3 (v := vI ((x 9) 4)) wx_read (by decide) wf_X3_18 rfl dX3_isWord_12 ?_
    refine jx_aload_n E 0 dX3_isWord_15 rfl ?_
    refine jx_get E f_X3 2 (v := vI ((x 9) 3)) wx_read (by decide) wf_X3_15 rfl dX3_isWord_16 ?_
    refine jx_isub E dX3_isWord_19 ?_
    refine jx_icmp_eq (tgt := 25) E dX3_isWord_20 (by decide) (fun c2 => ?_) (fun c2 => ?_)
    · skip
      refine jx_iconst E dX3_isWord_25 ?_
      refine jx_istore_n E dX3_isWord_26 (by decide) [(2, vI 0), (0, .ref (a 39)), (1, .ref (G.2.2 (2 + wi)))] rfl ?_
      have LP27 : ∀ (n2 : Nat) (k : Nat), ((k : Int) ≤ lenW wi) → (lenW wi - (k : Int) < n2) → (eqF (x 3) (x 9 3) wi k = 1) → JX p l e (rmL 5) s m args below meth c 3 G A 0 0 (QI below args s G A (isR (x 3) (x 9) wi) (wsX G a x)) (wsX G a x) 27 [(2, vI (k : Int)), (0, .ref (a 39)), (1, .ref (G.2.2 (2 + wi)))] [] := by
        intro n2
        induction n2 with
        | zero => intro k q1 q2 q3; exfalso; omega
        | succ n2 ih =>
          intro k q1 q2 q3
          refine jx_iload_n E 0 dX3_isWord_27 rfl ?_
          refine jx_aload_n E 2 dX3_isWord_28 rfl ?_
          refine jx_callKi E wi (by omega) rfl [] [vI (k : Int)] (c_J0_length_8abf5 l G (wsX G a x) (i := wi) (by omega)) mb_J0_length_8abf5 mv_J0_length_8abf5 wl_X3_120 dX3_isWord_29 ?_
          refine jx_icmp_ge (tgt := 61) E dX3_isWord_32 (by decide) (fun c3 => ?_) (fun c3 => ?_)
          · skip
            refine jx_iconst E dX3_isWord_61 ?_
            exact jx_zret E hr dX3_isWord_62 (by simp only [isR, isW]; rw [if_pos (by omega), if_pos (by omega), show sw_len.getD wi 0 = k by omega]; exact q3.symm) (by first | rfl | (congr 1; done)) (by first | exact Or.inl rfl | exact Or.inr rfl | omega)
          · skip
            have hsw := (swc_ok wi h1 k (by omega) (by omega)).2
            have hsc : swc wi ((k : Int)).toNat = nm_row.getD (7 * wi + k) 0 := hsw
            have hni := nm_in (7 * wi + k) (by omega)
            have hbk : byP (x 3) (x 9 1) (x 9 3 + (k : Int)) = x 3 (x 9 3 + (k : Int)) := if_pos (by omega)
            have hwk := hw (x 9 3 + (k : Int)) (by omega) (by omega)
            refine jx_aload_n E 1 dX3_isWord_35 rfl ?_
            refine jx_aload_n E 1 dX3_isWord_36 rfl ?_
            refine jx_get E f_X3 2 (v := vI ((x 9) 3)) wx_read (by decide) wf_X3_15 rfl dX3_isWord_37 ?_
            refine jx_iload_n E 0 dX3_isWord_40 rfl ?_
            refine jx_iadd E dX3_isWord_41 ?_
            refine jx_callVi E [vI (((x 9) 3) + (k : Int))] [] (c_X3_byteAt l G a x (k := ((x 9) 3) + (k : Int)) (by unfold inR; omega) (show 0 ≤ x 9 1 ∧ x 9 1 ≤ 120 from hn)) mb_X3_byteAt mv_X3_byteAt wl_X3_125 f_X3 wx_read dX3_isWord_42 ?_
            refine jx_aload_n E 2 dX3_isWord_45 rfl ?_
            refine jx_iload_n E 0 dX3_isWord_46 rfl ?_
            refine jx_callKi E wi (by omega) rfl [vI (k : Int)] [vI (byP (x 3) ((x 9) 1) (((x 9) 3) + (k : Int)))] (c_J0_charAt_5068e l G (wsX G a x) (k := (k : Int)) (i := wi) (by omega) (by omega)) mb_J0_charAt_5068e mv_J0_charAt_5068e wl_X3_128 dX3_isWord_47 ?_
            refine jx_icmp_eq (tgt := 55) E dX3_isWord_50 (by decide) (fun c4 => ?_) (fun c4 => ?_)
            · skip
              refine jx_iinc E 0 dX3_isWord_55 rfl (by decide) [(2, vI ((k : Int) + 1)), (0, .ref (a 39)), (1, .ref (G.2.2 (2 + wi)))] rfl ?_
              refine jx_goto (tgt := 27) E dX3_isWord_58 (by decide) ?_
              exact ih (k + 1) (by omega) (by omega) (by simp only [eqF]; rw [if_pos ⟨q3, by omega⟩])
            · skip
              refine jx_iconst E dX3_isWord_53 ?_
              exact jx_zret E hr dX3_isWord_54 (by have e0 : eqF (x 3) (x 9 3) wi (k + 1) = 0 := (by simp only [eqF]; rw [if_neg (by omega)]); simp only [isR, isW]; rw [if_pos (by omega), if_pos (by omega)]; exact (eq_0 e0 _ (by omega)).symm) (by first | rfl | (congr 1; done)) (by first | exact Or.inl rfl | exact Or.inr rfl | omega)
      exact LP27 8 0 (by omega) (by omega) rfl
    · skip
      refine jx_iconst E dX3_isWord_23 ?_
      exact jx_zret E hr dX3_isWord_24 (by simp only [isR, isW]; omega) (by first | rfl | (congr 1; done)) (by first | exact Or.inl rfl | exact Or.inr rfl | omega)
set_option maxHeartbeats 4000000 in
theorem c_X3_takeWord (l : Launch) (G : GT) (a : Nat → Nat) (x : MS) {wi : Nat} (h1 : wi < 13) (h2 : RG (x 3) (x 9)) : CtI l G yX3_takeWord cX3_takeWord 2 (some .boolean) 6 [.ref (a 39), .ref (G.2.2 (2 + wi))] (wsX G a x) (isR (x 3) (x 9) wi) (wsX G a (setc x 9 (twR (x 3) (x 9) wi))) := by
  have hii := isR_in (x 3) (x 9) wi
  refine CtI.of (by decide) (Nat.le_of_ble_eq_true rfl) ?_
  intro p e s m args below meth c A E hr
  refine jx_lv (lv' := [(0, .ref (a 39)), (1, .ref (G.2.2 (2 + wi)))]) [0, 1] rfl ?_
  refine jx_aload_n E 0 dX3_takeWord_0 rfl ?_
  refine jx_aload_n E 1 dX3_takeWord_1 rfl ?_
  refine jx_callVi E [.ref (G.2.2 (2 + wi))] [] (c_X3_isWord l G a x (wi := wi) h1 h2) mb_X3_isWord mv_X3_isWord wl_X3_74 f_X3 wx_read dX3_takeWord_2 ?_
  refine jx_if_ne (tgt := 10) E dX3_takeWord_5 (by decide) (fun c1 => ?_) (fun c1 => ?_)
  · skip
    refine jx_aload_n E 0 dX3_takeWord_10 rfl ?_
    refine jx_callVv E [] [] (c_X3_step l G a x  h2.1) mb_X3_step mv_X3_step wl_X3_31 f_X3 wx_read dX3_takeWord_11 ?_
    refine jx_iconst E dX3_takeWord_14 ?_
    exact jx_zret E hr dX3_takeWord_15 (by omega) (by rw [tw_y (by omega)]) (by first | exact Or.inl rfl | exact Or.inr rfl | omega)
  · skip
    refine jx_iconst E dX3_takeWord_8 ?_
    exact jx_zret E hr dX3_takeWord_9 (by omega) (by rw [tw_no (by omega), setc_self]) (by first | exact Or.inl rfl | exact Or.inr rfl | omega)
set_option maxHeartbeats 4000000 in
theorem c_X3_takeNumber (l : Launch) (G : GT) (a : Nat → Nat) (x : MS) {lo hi : Int} (h1 : inR lo) (h2 : inR hi) (h3 : RG (x 3) (x 9)) : CtI l G yX3_takeNumber cX3_takeNumber 3 (some .boolean) 3 [.ref (a 39), vI lo, vI hi] (wsX G a x) (tnO (x 9) lo hi) (wsX G a (setc x 9 (tnR (x 3) (x 9) lo hi))) := by
  obtain ⟨⟨hn, hp, hw⟩, h3s, h2s, h5s, hlt, hse⟩ := id h3
  unfold inR at h1 h2
  refine CtI.of (by decide) (Nat.le_of_ble_eq_true rfl) ?_
  intro p e s m args below meth c A E hr
  refine jx_lv (lv' := [(0, .ref (a 39)), (1, vI lo), (2, vI hi)]) [0, 1, 2] rfl ?_
  refine jx_aload_n E 0 dX3_takeNumber_0 rfl ?_
  refine jx_get E f_X3 1 (v := vI ((x 9) 2)) wx_read (by decide) wf_X3_11 rfl dX3_takeNumber_1 ?_
  refine jx_iconst E dX3_takeNumber_4 ?_
  refine jx_icmp_ne (tgt := 24) E dX3_takeNumber_5 (by decide) (fun c1 => ?_) (fun c1 => ?_)
  · skip
    refine jx_iconst E dX3_takeNumber_24 ?_
    exact jx_zret E hr dX3_takeNumber_25 (by unfold tnO; omega) (by rw [tn_no (by unfold tnO; omega), setc_self]) (by first | exact Or.inl rfl | exact Or.inr rfl | omega)
  · skip
    refine jx_aload_n E 0 dX3_takeNumber_8 rfl ?_
    refine jx_get E f_X3 4 (v := vI ((x 9) 5)) wx_read (by decide) wf_X3_21 rfl dX3_takeNumber_9 ?_
    refine jx_iload_n E 1 dX3_takeNumber_12 rfl ?_
    refine jx_icmp_lt (tgt := 24) E dX3_takeNumber_13 (by decide) (fun c2 => ?_) (fun c2 => ?_)
    · skip
      refine jx_iconst E dX3_takeNumber_24 ?_
      exact jx_zret E hr dX3_takeNumber_25 (by unfold tnO; omega) (by rw [tn_no (by unfold tnO; omega), setc_self]) (by first | exact Or.inl rfl | exact Or.inr rfl | omega)
    · skip
      refine jx_aload_n E 0 dX3_takeNumber_16 rfl ?_
      refine jx_get E f_X3 4 (v := vI ((x 9) 5)) wx_read (by decide) wf_X3_21 rfl dX3_takeNumber_17 ?_
      refine jx_iload_n E 2 dX3_takeNumber_20 rfl ?_
      refine jx_icmp_le (tgt := 26) E dX3_takeNumber_21 (by decide) (fun c3 => ?_) (fun c3 => ?_)
      · skip
        refine jx_aload_n E 0 dX3_takeNumber_26 rfl ?_
        refine jx_aload_n E 0 dX3_takeNumber_27 rfl ?_
        refine jx_get E f_X3 4 (v := vI ((x 9) 5)) wx_read (by decide) wf_X3_21 rfl dX3_takeNumber_28 ?_
        refine jx_put E f_X3 5 wx_read (by decide) wf_X3_24 rfl rfl rfl (Nat.le_of_ble_eq_true rfl) wp_read5 dX3_takeNumber_31 ?_
        refine jx_aload_n E 0 dX3_takeNumber_34 rfl ?_
        refine jx_callVv E [] [] (c_X3_step l G a (setc x 9 (updI (x 9) 6 ((x 9) 5)))  (show TG (x 3) (updI (x 9) 6 (x 9 5)) from TG_u h3.1 _)) mb_X3_step mv_X3_step wl_X3_31 f_X3 wx_read dX3_takeNumber_35 ?_
        refine jx_eq (ws' := wsX G a (setc x 9 (stR (x 3) (updI (x 9) 6 ((x 9) 5))))) (congrArg (wsX G a) (by first | rfl | (rw [setc_setc]; rfl) | exact setc_in _ _ _ _ (by decide) | exact setc_in2 _ _ _ _ _ (by decide) (by decide) | (rw [setc_in _ _ _ _ (by decide), setc_in _ _ _ _ (by decide)]; rfl) | (rw [setc_in _ _ _ _ (by decide), setc_setc]; rfl) | (simp only [setc_setc, setc_at]; done) | (simp only [setc_setc, setc_at]; rfl) | (funext d; simp only [setc_app]; (repeat' split) <;> first | rfl | omega))) ?_
        refine jx_iconst E dX3_takeNumber_38 ?_
        exact jx_zret E hr dX3_takeNumber_39 (by unfold tnO; omega) (by unfold tnR; rw [if_pos (by omega)]) (by first | exact Or.inl rfl | exact Or.inr rfl | omega)
      · skip
        refine jx_iconst E dX3_takeNumber_24 ?_
        exact jx_zret E hr dX3_takeNumber_25 (by unfold tnO; omega) (by rw [tn_no (by unfold tnO; omega), setc_self]) (by first | exact Or.inl rfl | exact Or.inr rfl | omega)
set_option maxHeartbeats 4000000 in
theorem c_X3_takeRain (l : Launch) (G : GT) (a : Nat → Nat) (x : MS) (h1 : RG (x 3) (x 9)) : CtI l G yX3_takeRain cX3_takeRain 3 (some .boolean) 4 [.ref (a 39), .ref (a 13)] (wsX G a x) ((trR (x 3) (x 1) (x 9)).1) (wsX G a (setc (setc x 1 ((trR (x 3) (x 1) (x 9)).2.1)) 9 ((trR (x 3) (x 1) (x 9)).2.2))) := by
  have ha := h1.tn 0 7
  have hb := ha.1.tn 0 99
  have o1 := tnO_in (x 9) 0 7
  have o2 := tnO_in (tnR (x 3) (x 9) 0 7) 0 99
  refine CtI.of (by decide) (Nat.le_of_ble_eq_true rfl) ?_
  intro p e s m args below meth c A E hr
  refine jx_lv (lv' := [(0, .ref (a 39)), (1, .ref (a 13))]) [0, 1] rfl ?_
  refine jx_aload_n E 0 dX3_takeRain_0 rfl ?_
  refine jx_iconst E dX3_takeRain_1 ?_
  refine jx_bipush E dX3_takeRain_2 ?_
  refine jx_callVi E [vI 0, vI 7] [] (c_X3_takeNumber l G a x (lo := 0) (hi := 7) (by unfold inR; omega) (by unfold inR; omega) h1) mb_X3_takeNumber mv_X3_takeNumber wl_X3_64 f_X3 wx_read dX3_takeRain_4 ?_
  refine jx_if_ne (tgt := 12) E dX3_takeRain_7 (by decide) (fun c1 => ?_) (fun c1 => ?_)
  · skip
    have hq := ha.2.2 (by omega)
    refine jx_aload_n E 0 dX3_takeRain_12 rfl ?_
    refine jx_get E f_X3 5 (v := vI ((tnR (x 3) (x 9) 0 7) 6)) wx_read (by decide) wf_X3_24 (by first | rfl | (simp only [setc_at, List.getElem?_cons_zero, List.getElem?_cons_succ]; done) | (simp [setc_at]; done)) dX3_takeRain_13 ?_
    refine jx_istore_n E dX3_takeRain_16 (by decide) [(2, vI ((tnR (x 3) (x 9) 0 7) 6)), (0, .ref (a 39)), (1, .ref (a 13))] rfl ?_
    refine jx_aload_n E 1 dX3_takeRain_17 rfl ?_
    refine jx_iconst E dX3_takeRain_18 ?_
    refine jx_bipush E dX3_takeRain_19 ?_
    refine jx_callVi E [vI 0, vI 99] [] (c_X3_takeNumber l G a (setc x 9 (tnR (x 3) (x 9) 0 7)) (lo := 0) (hi := 99) (by unfold inR; omega) (by unfold inR; omega) (show RG (x 3) (tnR (x 3) (x 9) 0 7) from ha.1)) mb_X3_takeNumber mv_X3_takeNumber wl_X3_64 f_X3 wx_read dX3_takeRain_21 ?_
    refine jx_eq (ws' := wsX G a (setc x 9 (tnR (x 3) (tnR (x 3) (x 9) 0 7) 0 99))) (congrArg (wsX G a) (by first | rfl | (rw [setc_setc]; rfl) | exact setc_in _ _ _ _ (by decide) | exact setc_in2 _ _ _ _ _ (by decide) (by decide) | (rw [setc_in _ _ _ _ (by decide), setc_in _ _ _ _ (by decide)]; rfl) | (rw [setc_in _ _ _ _ (by decide), setc_setc]; rfl) | (simp only [setc_setc, setc_at]; done) | (simp only [setc_setc, setc_at]; rfl) | (funext d; simp only [setc_app]; (repeat' split) <;> first | rfl | omega))) ?_
    refine jx_st (st' := [vI (tnO (tnR (x 3) (x 9) 0 7) 0 99)]) (by first | rfl | (simp only [setc_at]; done) | (simp only [setc_at]; rfl)) ?_
    refine jx_if_ne (tgt := 29) E dX3_takeRain_24 (by decide) (fun c2 => ?_) (fun c2 => ?_)
    · skip
      have hr9 := hb.2.2 (by omega)
      refine jx_aload_n E 2 dX3_takeRain_29 rfl ?_
      refine jx_get E f_X4 4 (v := .ref (a 14)) (wx_town (j := 1) (by decide)) (by decide) wf_X3_113 rfl dX3_takeRain_30 ?_
      refine jx_iload_n E 0 dX3_takeRain_33 rfl ?_
      refine jx_aload_n E 1 dX3_takeRain_34 rfl ?_
      refine jx_get E f_X3 5 (v := vI ((tnR (x 3) (tnR (x 3) (x 9) 0 7) 0 99) 6)) wx_read (by decide) wf_X3_24 (by first | rfl | (simp only [setc_at, List.getElem?_cons_zero, List.getElem?_cons_succ]; done) | (simp [setc_at]; done)) dX3_takeRain_35 ?_
      refine jx_iast E (wx_rain (j := 1) (by decide)) (wp_rain (j := 1) (by decide) (by omega) (by omega)) (by omega) (by omega) (by decide) dX3_takeRain_38 ?_
      refine jx_iconst E dX3_takeRain_39 ?_
      exact jx_zret E hr dX3_takeRain_40 (by rw [show trR (x 3) (x 1) (x 9) = ((1 : Int), updI (x 1) (5 + ((tnR (x 3) (x 9) 0 7) 6)) ((tnR (x 3) (tnR (x 3) (x 9) 0 7) 0 99) 6), tnR (x 3) (tnR (x 3) (x 9) 0 7) 0 99) from by unfold trR trB; rw [if_pos (by omega), if_pos (by omega)]]) (by rw [show trR (x 3) (x 1) (x 9) = ((1 : Int), updI (x 1) (5 + ((tnR (x 3) (x 9) 0 7) 6)) ((tnR (x 3) (tnR (x 3) (x 9) 0 7) 0 99) 6), tnR (x 3) (tnR (x 3) (x 9) 0 7) 0 99) from by unfold trR trB; rw [if_pos (by omega), if_pos (by omega)]]; first | done | exact congrArg (wsX G a) (by first | rfl | (funext d; simp only [setc_app]; (repeat' split) <;> first | rfl | (exfalso; omega) | (rename_i z9; subst z9; rfl)))) (by first | exact Or.inl rfl | exact Or.inr rfl | omega)
    · skip
      refine jx_eq (ws' := wsX G a (setc x 9 (tnR (x 3) (x 9) 0 7))) (congrArg (wsX G a) (by rw [tn_no (r := tnR (x 3) (x 9) 0 7) (by omega)])) ?_
      refine jx_iconst E dX3_takeRain_27 ?_
      exact jx_zret E hr dX3_takeRain_28 (by rw [show trR (x 3) (x 1) (x 9) = ((0 : Int), x 1, tnR (x 3) (x 9) 0 7) from by unfold trR trB; rw [if_pos (by omega), if_neg (by omega)]]) (by rw [show trR (x 3) (x 1) (x 9) = ((0 : Int), x 1, tnR (x 3) (x 9) 0 7) from by unfold trR trB; rw [if_pos (by omega), if_neg (by omega)]]; first | done | exact congrArg (wsX G a) (by first | rfl | (funext d; simp only [setc_app]; (repeat' split) <;> first | rfl | (exfalso; omega) | (rename_i z9; subst z9; rfl)))) (by first | exact Or.inl rfl | exact Or.inr rfl | omega)
  · skip
    refine jx_eq (ws' := wsX G a (setc x 9 (x 9))) (congrArg (wsX G a) (by rw [tn_no (by omega)])) ?_
    refine jx_iconst E dX3_takeRain_10 ?_
    exact jx_zret E hr dX3_takeRain_11 (by rw [show trR (x 3) (x 1) (x 9) = ((0 : Int), x 1, x 9) from by unfold trR; rw [if_neg (by omega)]]) (by rw [show trR (x 3) (x 1) (x 9) = ((0 : Int), x 1, x 9) from by unfold trR; rw [if_neg (by omega)]]; first | done | exact congrArg (wsX G a) (by first | rfl | (funext d; simp only [setc_app]; (repeat' split) <;> first | rfl | (exfalso; omega) | (rename_i z9; subst z9; rfl)))) (by first | exact Or.inl rfl | exact Or.inr rfl | omega)
set_option maxHeartbeats 4000000 in
theorem c_X3_takeFrost (l : Launch) (G : GT) (a : Nat → Nat) (x : MS) {cq : Int} (h1 : RG (x 3) (x 9)) : CtI l G yX3_takeFrost cX3_takeFrost 3 (some .boolean) 4 [.ref (a 39), .ref (a 13), vI cq] (wsX G a x) ((tfR (x 3) (x 1) (x 9) cq).1) (wsX G a (setc (setc x 1 ((tfR (x 3) (x 1) (x 9) cq).2.1)) 9 ((tfR (x 3) (x 1) (x 9) cq).2.2))) := by
  have ha := h1.tn 0 7
  have o1 := tnO_in (x 9) 0 7
  refine CtI.of (by decide) (Nat.le_of_ble_eq_true rfl) ?_
  intro p e s m args below meth c A E hr
  refine jx_lv (lv' := [(0, .ref (a 39)), (1, .ref (a 13)), (2, vI cq)]) [0, 1, 2] rfl ?_
  refine jx_aload_n E 0 dX3_takeFrost_0 rfl ?_
  refine jx_iconst E dX3_takeFrost_1 ?_
  refine jx_bipush E dX3_takeFrost_2 ?_
  refine jx_callVi E [vI 0, vI 7] [] (c_X3_takeNumber l G a x (lo := 0) (hi := 7) (by unfold inR; omega) (by unfold inR; omega) h1) mb_X3_takeNumber mv_X3_takeNumber wl_X3_64 f_X3 wx_read dX3_takeFrost_4 ?_
  refine jx_if_ne (tgt := 12) E dX3_takeFrost_7 (by decide) (fun c1 => ?_) (fun c1 => ?_)
  · skip
    have hq := ha.2.2 (by omega)
    refine jx_aload_n E 1 dX3_takeFrost_12 rfl ?_
    refine jx_get E f_X4 5 (v := .ref (a 15)) (wx_town (j := 1) (by decide)) (by decide) wf_X3_117 rfl dX3_takeFrost_13 ?_
    refine jx_aload_n E 0 dX3_takeFrost_16 rfl ?_
    refine jx_get E f_X3 5 (v := vI ((tnR (x 3) (x 9) 0 7) 6)) wx_read (by decide) wf_X3_24 (by first | rfl | (simp only [setc_at, List.getElem?_cons_zero, List.getElem?_cons_succ]; done) | (simp [setc_at]; done)) dX3_takeFrost_17 ?_
    refine jx_iload_n E 2 dX3_takeFrost_20 rfl ?_
    refine jx_iast E (wx_cold (j := 1) (by decide)) (wp_cold (j := 1) (by decide) (by omega) (by omega)) (by omega) (by omega) (by decide) dX3_takeFrost_21 ?_
    refine jx_iconst E dX3_takeFrost_22 ?_
    exact jx_zret E hr dX3_takeFrost_23 (by rw [show tfR (x 3) (x 1) (x 9) cq = ((1 : Int), updI (x 1) (13 + ((tnR (x 3) (x 9) 0 7) 6)) cq, tnR (x 3) (x 9) 0 7) from by unfold tfR; rw [if_pos (by omega)]]) (by rw [show tfR (x 3) (x 1) (x 9) cq = ((1 : Int), updI (x 1) (13 + ((tnR (x 3) (x 9) 0 7) 6)) cq, tnR (x 3) (x 9) 0 7) from by unfold tfR; rw [if_pos (by omega)]]; first | done | exact congrArg (wsX G a) (by first | rfl | (funext d; simp only [setc_app]; (repeat' split) <;> first | rfl | (exfalso; omega) | (rename_i z9; subst z9; rfl)))) (by first | exact Or.inl rfl | exact Or.inr rfl | omega)
  · skip
    refine jx_eq (ws' := wsX G a (setc x 9 (x 9))) (congrArg (wsX G a) (by rw [tn_no (by omega)])) ?_
    refine jx_iconst E dX3_takeFrost_10 ?_
    exact jx_zret E hr dX3_takeFrost_11 (by rw [show tfR (x 3) (x 1) (x 9) cq = ((0 : Int), x 1, x 9) from by unfold tfR; rw [if_neg (by omega)]]) (by rw [show tfR (x 3) (x 1) (x 9) cq = ((0 : Int), x 1, x 9) from by unfold tfR; rw [if_neg (by omega)]]; first | done | exact congrArg (wsX G a) (by first | rfl | (funext d; simp only [setc_app]; (repeat' split) <;> first | rfl | (exfalso; omega) | (rename_i z9; subst z9; rfl)))) (by first | exact Or.inl rfl | exact Or.inr rfl | omega)
set_option maxHeartbeats 4000000 in
theorem c_X3_kindNamed (l : Launch) (G : GT) (a : Nat → Nat) (x : MS) (h1 : RG (x 3) (x 9)) : CtI l G yX3_kindNamed cX3_kindNamed 1 (some .int) 6 [.ref (a 39)] (wsX G a x) (kdR (x 3) (x 9)) (wsX G a x) := by
  have i0 := isR_in (x 3) (x 9) 0
  have i1 := isR_in (x 3) (x 9) 1
  have i2 := isR_in (x 3) (x 9) 2
  have i3 := isR_in (x 3) (x 9) 3
  have i4 := isR_in (x 3) (x 9) 4
  have i5 := isR_in (x 3) (x 9) 5
  refine CtI.of (by decide) (Nat.le_of_ble_eq_true rfl) ?_
  intro p e s m args below meth c A E hr
  refine jx_lv (lv' := [(0, .ref (a 39))]) [0] rfl ?_
  refine jx_aload_n E 0 dX3_kindNamed_0 rfl ?_
  refine jx_ldcS E 0 (by decide) rfl dX3_kindNamed_1 ?_
  refine jx_callVi E [.ref (G.2.2 (2 + 0))] [] (c_X3_isWord l G a x (wi := 0) (by decide) h1) mb_X3_isWord mv_X3_isWord wl_X3_74 f_X3 wx_read dX3_kindNamed_3 ?_
  refine jx_if_eq (tgt := 11) E dX3_kindNamed_6 (by decide) (fun c1 => ?_) (fun c1 => ?_)
  · skip
    refine jx_aload_n E 0 dX3_kindNamed_11 rfl ?_
    refine jx_ldcS E 1 (by decide) rfl dX3_kindNamed_12 ?_
    refine jx_callVi E [.ref (G.2.2 (2 + 1))] [] (c_X3_isWord l G a x (wi := 1) (by decide) h1) mb_X3_isWord mv_X3_isWord wl_X3_74 f_X3 wx_read dX3_kindNamed_14 ?_
    refine jx_if_eq (tgt := 22) E dX3_kindNamed_17 (by decide) (fun c2 => ?_) (fun c2 => ?_)
    · skip
      refine jx_aload_n E 0 dX3_kindNamed_22 rfl ?_
      refine jx_ldcS E 2 (by decide) rfl dX3_kindNamed_23 ?_
      refine jx_callVi E [.ref (G.2.2 (2 + 2))] [] (c_X3_isWord l G a x (wi := 2) (by decide) h1) mb_X3_isWord mv_X3_isWord wl_X3_74 f_X3 wx_read dX3_kindNamed_25 ?_
      refine jx_if_eq (tgt := 33) E dX3_kindNamed_28 (by decide) (fun c3 => ?_) (fun c3 => ?_)
      · skip
        refine jx_aload_n E 0 dX3_kindNamed_33 rfl ?_
        refine jx_ldcS E 3 (by decide) rfl dX3_kindNamed_34 ?_
        refine jx_callVi E [.ref (G.2.2 (2 + 3))] [] (c_X3_isWord l G a x (wi := 3) (by decide) h1) mb_X3_isWord mv_X3_isWord wl_X3_74 f_X3 wx_read dX3_kindNamed_36 ?_
        refine jx_if_eq (tgt := 44) E dX3_kindNamed_39 (by decide) (fun c4 => ?_) (fun c4 => ?_)
        · skip
          refine jx_aload_n E 0 dX3_kindNamed_44 rfl ?_
          refine jx_ldcS E 4 (by decide) rfl dX3_kindNamed_45 ?_
          refine jx_callVi E [.ref (G.2.2 (2 + 4))] [] (c_X3_isWord l G a x (wi := 4) (by decide) h1) mb_X3_isWord mv_X3_isWord wl_X3_74 f_X3 wx_read dX3_kindNamed_47 ?_
          refine jx_if_eq (tgt := 55) E dX3_kindNamed_50 (by decide) (fun c5 => ?_) (fun c5 => ?_)
          · skip
            refine jx_aload_n E 0 dX3_kindNamed_55 rfl ?_
            refine jx_ldcS E 5 (by decide) rfl dX3_kindNamed_56 ?_
            refine jx_callVi E [.ref (G.2.2 (2 + 5))] [] (c_X3_isWord l G a x (wi := 5) (by decide) h1) mb_X3_isWord mv_X3_isWord wl_X3_74 f_X3 wx_read dX3_kindNamed_58 ?_
            refine jx_if_eq (tgt := 68) E dX3_kindNamed_61 (by decide) (fun c6 => ?_) (fun c6 => ?_)
            · skip
              refine jx_iconst E dX3_kindNamed_68 ?_
              exact jx_iret E hr dX3_kindNamed_69 (by unfold kdR; omega) (by first | rfl | (congr 1; done))
            · skip
              refine jx_iconst E dX3_kindNamed_64 ?_
              refine jx_goto (tgt := 69) E dX3_kindNamed_65 (by decide) ?_
              exact jx_iret E hr dX3_kindNamed_69 (by unfold kdR; omega) (by first | rfl | (congr 1; done))
          · skip
            refine jx_iconst E dX3_kindNamed_53 ?_
            exact jx_iret E hr dX3_kindNamed_54 (by unfold kdR; omega) (by first | rfl | (congr 1; done))
        · skip
          refine jx_iconst E dX3_kindNamed_42 ?_
          exact jx_iret E hr dX3_kindNamed_43 (by unfold kdR; omega) (by first | rfl | (congr 1; done))
      · skip
        refine jx_iconst E dX3_kindNamed_31 ?_
        exact jx_iret E hr dX3_kindNamed_32 (by unfold kdR; omega) (by first | rfl | (congr 1; done))
    · skip
      refine jx_iconst E dX3_kindNamed_20 ?_
      exact jx_iret E hr dX3_kindNamed_21 (by unfold kdR; omega) (by first | rfl | (congr 1; done))
  · skip
    refine jx_iconst E dX3_kindNamed_9 ?_
    exact jx_iret E hr dX3_kindNamed_10 (by unfold kdR; omega) (by first | rfl | (congr 1; done))
theorem c_X4_addOne_f (l : Launch) (G : GT) (a : Nat → Nat) (x : MS) {kd : Int} (h : x 1 4 = 8) : CtI l G yX4_addOne cX4_addOne 2 (some .int) 2 [.ref (a 13), vI kd] (wsX G a x) (-1) (wsX G a x) := by
  have q := c_X4_addOne_1 l G a x (kd := kd) (by omega)
  rwa [if_pos (by omega), if_pos (by omega), setc_self] at q
theorem c_X4_addOne_r (l : Launch) (G : GT) (a : Nat → Nat) (x : MS) {kd : Int} (h : 0 ≤ x 1 4 ∧ x 1 4 < 8) : CtI l G yX4_addOne cX4_addOne 2 (some .int) 2 [.ref (a 13), vI kd] (wsX G a x) (x 1 4) (wsX G a (setc x 1 (addP (x 1) kd))) := by
  have q := c_X4_addOne_1 l G a x (kd := kd) (by omega)
  rwa [if_neg (by omega), if_neg (by omega)] at q
set_option maxHeartbeats 4000000 in
theorem c_X3_takeFountain_f (l : Launch) (G : GT) (a : Nat → Nat) (x : MS) {kd : Int} (h1 : RG (x 3) (x 9)) (h2 : x 1 4 = 8) : CtI l G yX3_takeFountain cX3_takeFountain 5 (some .boolean) 7 [.ref (a 39), .ref (a 13), vI kd] (wsX G a x) ((tuA (x 3) (x 1) (x 9) kd).1) (wsX G a (setc (setc x 1 ((tuA (x 3) (x 1) (x 9) kd).2.1)) 9 ((tuA (x 3) (x 1) (x 9) kd).2.2))) := by
  refine CtI.of (by decide) (Nat.le_of_ble_eq_true rfl) ?_
  intro p e s m args below meth c A E hr
  refine jx_lv (lv' := [(0, .ref (a 39)), (1, .ref (a 13)), (2, vI kd)]) [0, 1, 2] rfl ?_
  refine jx_aload_n E 1 dX3_takeFountain_0 rfl ?_
  refine jx_iload_n E 2 dX3_takeFountain_1 rfl ?_
  refine jx_callVi E [vI kd] [] (c_X4_addOne_f l G a x (kd := kd) h2) mb_X4_addOne mv_X4_addOne wl_X3_87 f_X4 (wx_town (j := 1) (by decide)) dX3_takeFountain_2 ?_
  refine jx_istore_n E dX3_takeFountain_5 (by decide) [(3, vI (-1)), (0, .ref (a 39)), (1, .ref (a 13)), (2, vI kd)] rfl ?_
  refine jx_aload_n E 2 dX3_takeFountain_6 rfl ?_
  refine jx_iload_n E 0 dX3_takeFountain_7 rfl ?_
  refine jx_callVi E [vI (-1)] [] (c_X4_has_1 l G a x (f := -1) (by unfold inR; omega) (by omega)) mb_X4_has mv_X4_has wl_X3_91 f_X4 (wx_town (j := 1) (by decide)) dX3_takeFountain_8 ?_
  refine jx_if_ne (tgt := 16) E dX3_takeFountain_11 (by decide) (fun c1 => ?_) (fun c1 => ?_)
  · skip
    exfalso; omega
  · skip
    refine jx_iconst E dX3_takeFountain_14 ?_
    exact jx_zret E hr dX3_takeFountain_15 (by rw [show tuA (x 3) (x 1) (x 9) kd = ((0 : Int), x 1, x 9) from by unfold tuA; rw [if_pos (by omega)]]) (by rw [show tuA (x 3) (x 1) (x 9) kd = ((0 : Int), x 1, x 9) from by unfold tuA; rw [if_pos (by omega)]]; first | done | exact congrArg (wsX G a) (by first | rfl | (funext d; simp only [setc_app]; (repeat' split) <;> first | rfl | (exfalso; omega) | (rename_i z9; subst z9; rfl)))) (by first | exact Or.inl rfl | exact Or.inr rfl | omega)
set_option maxHeartbeats 4000000 in
theorem c_X3_takeFountain_r (l : Launch) (G : GT) (a : Nat → Nat) (x : MS) {kd : Int} (h1 : RG (x 3) (x 9)) (h2 : 0 ≤ x 1 4 ∧ x 1 4 < 8) : CtI l G yX3_takeFountain cX3_takeFountain 5 (some .boolean) 7 [.ref (a 39), .ref (a 13), vI kd] (wsX G a x) ((tuA (x 3) (x 1) (x 9) kd).1) (wsX G a (setc (setc x 1 ((tuA (x 3) (x 1) (x 9) kd).2.1)) 9 ((tuA (x 3) (x 1) (x 9) kd).2.2))) := by
  have ha4 := add_4 (x 1) kd
  have ha := h1.stp.stp.tn 1 40
  have o1 := isR_in (x 3) (stR (x 3) (x 9)) 6
  have o2 := tnO_in (stR (x 3) (stR (x 3) (x 9))) 1 40
  refine CtI.of (by decide) (Nat.le_of_ble_eq_true rfl) ?_
  intro p e s m args below meth c A E hr
  refine jx_lv (lv' := [(0, .ref (a 39)), (1, .ref (a 13)), (2, vI kd)]) [0, 1, 2] rfl ?_
  refine jx_aload_n E 1 dX3_takeFountain_0 rfl ?_
  refine jx_iload_n E 2 dX3_takeFountain_1 rfl ?_
  refine jx_callVi E [vI kd] [] (c_X4_addOne_r l G a x (kd := kd) h2) mb_X4_addOne mv_X4_addOne wl_X3_87 f_X4 (wx_town (j := 1) (by decide)) dX3_takeFountain_2 ?_
  refine jx_istore_n E dX3_takeFountain_5 (by decide) [(3, vI ((x 1) 4)), (0, .ref (a 39)), (1, .ref (a 13)), (2, vI kd)] rfl ?_
  refine jx_aload_n E 2 dX3_takeFountain_6 rfl ?_
  refine jx_iload_n E 0 dX3_takeFountain_7 rfl ?_
  refine jx_callVi E [vI ((x 1) 4)] [] (c_X4_has_1 l G a (setc x 1 (addP (x 1) kd)) (f := (x 1) 4) (by unfold inR; omega) (show 0 ≤ addP (x 1) kd 4 ∧ addP (x 1) kd 4 ≤ 8 by omega)) mb_X4_has mv_X4_has wl_X3_91 f_X4 (wx_town (j := 1) (by decide)) dX3_takeFountain_8 ?_
  refine jx_st (st' := [vI (if vFou (addP (x 1) kd) ((x 1) 4) then 1 else 0)]) (by first | rfl | (simp only [setc_at]; done) | (simp only [setc_at]; rfl)) ?_
  refine jx_if_ne (tgt := 16) E dX3_takeFountain_11 (by decide) (fun c1 => ?_) (fun c1 => ?_)
  · skip
    refine jx_aload_n E 2 dX3_takeFountain_16 rfl ?_
    refine jx_get E f_X4 6 (v := .ref (a 16)) (wx_town (j := 1) (by decide)) (by decide) wf_X3_95 rfl dX3_takeFountain_17 ?_
    refine jx_iload_n E 0 dX3_takeFountain_20 rfl ?_
    refine jx_aald E 2 (y := a (5 + 12 * 1 + ((x 1) 4).toNat)) (wx_row (j := 1) (by decide)) rfl rfl (by omega) (by omega) (by decide) dX3_takeFountain_21 ?_
    refine jx_astore E dX3_takeFountain_22 (by decide) [(4, .ref (a (5 + 12 * 1 + ((x 1) 4).toNat))), (3, vI ((x 1) 4)), (0, .ref (a 39)), (1, .ref (a 13)), (2, vI kd)] rfl ?_
    refine jx_aload_n E 2 dX3_takeFountain_24 rfl ?_
    refine jx_callVv E [] [] (c_X3_step l G a (setc x 1 (addP (x 1) kd))  h1.1) mb_X3_step mv_X3_step wl_X3_31 f_X3 wx_read dX3_takeFountain_25 ?_
    have JN58 : ∀ (T : Int → Int) (R : Int → Int), (0 ≤ T 4 ∧ T 4 ≤ 8) → (RG (x 3) R) → (tuC (x 3) T R (x 1 4) = tuA (x 3) (x 1) (x 9) kd) → JX p l e (rmL 7) s m args below meth c 5 G A 0 0 (QI below args s G A ((tuA (x 3) (x 1) (x 9) kd).1) (wsX G a (setc (setc x 1 ((tuA (x 3) (x 1) (x 9) kd).2.1)) 9 ((tuA (x 3) (x 1) (x 9) kd).2.2)))) (wsX G a (setc (setc x 1 T) 9 R)) 58 [(4, .ref (a (5 + 12 * 1 + ((x 1) 4).toNat))), (3, vI ((x 1) 4)), (0, .ref (a 39)), (1, .ref (a 13)), (2, vI kd)] [] := by
      intro T R hT4 hR hq
      have hb := hR.stp.tn 0 99
      have o3 := isR_in (x 3) R 7
      have o4 := tnO_in (stR (x 3) R) 0 99
      have JN88 : ∀ (T2 : Int → Int) (R2 : Int → Int), (0 ≤ T2 4 ∧ T2 4 ≤ 8) → (RG (x 3) R2) → (tuD (x 3) T2 R2 (x 1 4) = tuA (x 3) (x 1) (x 9) kd) → JX p l e (rmL 7) s m args below meth c 5 G A 0 0 (QI below args s G A ((tuA (x 3) (x 1) (x 9) kd).1) (wsX G a (setc (setc x 1 ((tuA (x 3) (x 1) (x 9) kd).2.1)) 9 ((tuA (x 3) (x 1) (x 9) kd).2.2)))) (wsX G a (setc (setc x 1 T2) 9 R2)) 88 [(4, .ref (a (5 + 12 * 1 + ((x 1) 4).toNat))), (3, vI ((x 1) 4)), (0, .ref (a 39)), (1, .ref (a 13)), (2, vI kd)] [] := by
        intro T2 R2 hT42 hR2 hq2
        have o5 := isR_in (x 3) R2 8
        refine jx_aload_n E 2 dX3_takeFountain_88 rfl ?_
        refine jx_ldcS E 8 (by decide) rfl dX3_takeFountain_89 ?_
        refine jx_callVi E [.ref (G.2.2 (2 + 8))] [] (c_X3_takeWord l G a (setc (setc x 1 T2) 9 R2) (wi := 8) (by decide) hR2) mb_X3_takeWord mv_X3_takeWord wl_X3_48 f_X3 wx_read dX3_takeFountain_91 ?_
        refine jx_eq (ws' := wsX G a (setc (setc x 1 T2) 9 (twR (x 3) R2 8))) (congrArg (wsX G a) (by first | rfl | (rw [setc_setc]; rfl) | exact setc_in _ _ _ _ (by decide) | exact setc_in2 _ _ _ _ _ (by decide) (by decide) | (rw [setc_in _ _ _ _ (by decide), setc_in _ _ _ _ (by decide)]; rfl) | (rw [setc_in _ _ _ _ (by decide), setc_setc]; rfl) | (simp only [setc_setc, setc_at]; done) | (simp only [setc_setc, setc_at]; rfl) | (funext d; simp only [setc_app]; (repeat' split) <;> first | rfl | omega))) ?_
        refine jx_st (st' := [vI (isR (x 3) R2 8)]) (by first | rfl | (simp only [setc_at]; done) | (simp only [setc_at]; rfl)) ?_
        refine jx_if_eq (tgt := 103) E dX3_takeFountain_94 (by decide) (fun c2 => ?_) (fun c2 => ?_)
        · skip
          refine jx_eq (ws' := wsX G a (setc (setc x 1 T2) 9 R2)) (congrArg (wsX G a) (by rw [tw_no (by omega)])) ?_
          refine jx_iconst E dX3_takeFountain_103 ?_
          exact jx_zret E hr dX3_takeFountain_104 (by rw [show tuA (x 3) (x 1) (x 9) kd = ((1 : Int), T2, R2) from by rw [← hq2]; unfold tuD; rw [if_neg (by omega)]]) (by rw [show tuA (x 3) (x 1) (x 9) kd = ((1 : Int), T2, R2) from by rw [← hq2]; unfold tuD; rw [if_neg (by omega)]]; first | done | exact congrArg (wsX G a) (by first | rfl | (funext d; simp only [setc_app]; (repeat' split) <;> first | rfl | (exfalso; omega) | (rename_i z9; subst z9; rfl)))) (by first | exact Or.inl rfl | exact Or.inr rfl | omega)
        · skip
          refine jx_eq (ws' := wsX G a (setc (setc x 1 T2) 9 (stR (x 3) R2))) (congrArg (wsX G a) (by rw [tw_y (by omega)])) ?_
          refine jx_aload E 0 dX3_takeFountain_97 rfl ?_
          refine jx_iconst E dX3_takeFountain_99 ?_
          refine jx_put E f_X0 2 (wx_fou (j := 1) (by decide) (by omega) (by omega)) (by decide) wf_X3_111 rfl rfl rfl (Nat.le_of_ble_eq_true rfl) (wp_fou2 (j := 1) (by decide) (by omega) (by omega)) dX3_takeFountain_100 ?_
          refine jx_eq (ws' := wsX G a (setc (setc x 1 (updI T2 (21 + 5 * ((x 1) 4) + 2) 1)) 9 (stR (x 3) R2))) (congrArg (wsX G a) (by first | rfl | (rw [setc_setc]; rfl) | exact setc_in _ _ _ _ (by decide) | exact setc_in2 _ _ _ _ _ (by decide) (by decide) | (rw [setc_in _ _ _ _ (by decide), setc_in _ _ _ _ (by decide)]; rfl) | (rw [setc_in _ _ _ _ (by decide), setc_setc]; rfl) | (simp only [setc_setc, setc_at]; done) | (simp only [setc_setc, setc_at]; rfl) | (funext d; simp only [setc_app]; (repeat' split) <;> first | rfl | omega))) ?_
          refine jx_iconst E dX3_takeFountain_103 ?_
          exact jx_zret E hr dX3_takeFountain_104 (by rw [show tuA (x 3) (x 1) (x 9) kd = ((1 : Int), updI T2 (21 + 5 * ((x 1) 4) + 2) 1, stR (x 3) R2) from by rw [← hq2]; unfold tuD; rw [if_pos (by omega)]]) (by rw [show tuA (x 3) (x 1) (x 9) kd = ((1 : Int), updI T2 (21 + 5 * ((x 1) 4) + 2) 1, stR (x 3) R2) from by rw [← hq2]; unfold tuD; rw [if_pos (by omega)]]; first | done | exact congrArg (wsX G a) (by first | rfl | (funext d; simp only [setc_app]; (repeat' split) <;> first | rfl | (exfalso; omega) | (rename_i z9; subst z9; rfl)))) (by first | exact Or.inl rfl | exact Or.inr rfl | omega)
      refine jx_aload_n E 2 dX3_takeFountain_58 rfl ?_
      refine jx_ldcS E 7 (by decide) rfl dX3_takeFountain_59 ?_
      refine jx_callVi E [.ref (G.2.2 (2 + 7))] [] (c_X3_takeWord l G a (setc (setc x 1 T) 9 R) (wi := 7) (by decide) hR) mb_X3_takeWord mv_X3_takeWord wl_X3_48 f_X3 wx_read dX3_takeFountain_61 ?_
      refine jx_eq (ws' := wsX G a (setc (setc x 1 T) 9 (twR (x 3) R 7))) (congrArg (wsX G a) (by first | rfl | (rw [setc_setc]; rfl) | exact setc_in _ _ _ _ (by decide) | exact setc_in2 _ _ _ _ _ (by decide) (by decide) | (rw [setc_in _ _ _ _ (by decide), setc_in _ _ _ _ (by decide)]; rfl) | (rw [setc_in _ _ _ _ (by decide), setc_setc]; rfl) | (simp only [setc_setc, setc_at]; done) | (simp only [setc_setc, setc_at]; rfl) | (funext d; simp only [setc_app]; (repeat' split) <;> first | rfl | omega))) ?_
      refine jx_st (st' := [vI (isR (x 3) R 7)]) (by first | rfl | (simp only [setc_at]; done) | (simp only [setc_at]; rfl)) ?_
      refine jx_if_eq (tgt := 88) E dX3_takeFountain_64 (by decide) (fun c3 => ?_) (fun c3 => ?_)
      · skip
        refine jx_eq (ws' := wsX G a (setc (setc x 1 T) 9 R)) (congrArg (wsX G a) (by rw [tw_no (by omega)])) ?_
        exact JN88 _ _ hT4 hR (by rw [← hq]; unfold tuC; rw [if_neg (by omega)])
      · skip
        refine jx_eq (ws' := wsX G a (setc (setc x 1 T) 9 (stR (x 3) R))) (congrArg (wsX G a) (by rw [tw_y (by omega)])) ?_
        refine jx_aload_n E 2 dX3_takeFountain_67 rfl ?_
        refine jx_iconst E dX3_takeFountain_68 ?_
        refine jx_bipush E dX3_takeFountain_69 ?_
        refine jx_callVi E [vI 0, vI 99] [] (c_X3_takeNumber l G a (setc (setc x 1 T) 9 (stR (x 3) R)) (lo := 0) (hi := 99) (by unfold inR; omega) (by unfold inR; omega) (show RG (x 3) (stR (x 3) R) from hR.stp)) mb_X3_takeNumber mv_X3_takeNumber wl_X3_64 f_X3 wx_read dX3_takeFountain_71 ?_
        refine jx_eq (ws' := wsX G a (setc (setc x 1 T) 9 (tnR (x 3) (stR (x 3) R) 0 99))) (congrArg (wsX G a) (by first | rfl | (rw [setc_setc]; rfl) | exact setc_in _ _ _ _ (by decide) | exact setc_in2 _ _ _ _ _ (by decide) (by decide) | (rw [setc_in _ _ _ _ (by decide), setc_in _ _ _ _ (by decide)]; rfl) | (rw [setc_in _ _ _ _ (by decide), setc_setc]; rfl) | (simp only [setc_setc, setc_at]; done) | (simp only [setc_setc, setc_at]; rfl) | (funext d; simp only [setc_app]; (repeat' split) <;> first | rfl | omega))) ?_
        refine jx_st (st' := [vI (tnO (stR (x 3) R) 0 99)]) (by first | rfl | (simp only [setc_at]; done) | (simp only [setc_at]; rfl)) ?_
        refine jx_if_ne (tgt := 79) E dX3_takeFountain_74 (by decide) (fun c4 => ?_) (fun c4 => ?_)
        · skip
          refine jx_aload E 0 dX3_takeFountain_79 rfl ?_
          refine jx_aload_n E 2 dX3_takeFountain_81 rfl ?_
          refine jx_get E f_X3 5 (v := vI ((tnR (x 3) (stR (x 3) R) 0 99) 6)) wx_read (by decide) wf_X3_24 (by first | rfl | (simp only [setc_at, List.getElem?_cons_zero, List.getElem?_cons_succ]; done) | (simp [setc_at]; done)) dX3_takeFountain_82 ?_
          refine jx_put E f_X0 3 (wx_fou (j := 1) (by decide) (by omega) (by omega)) (by decide) wf_X3_107 rfl rfl rfl (Nat.le_of_ble_eq_true rfl) (wp_fou3 (j := 1) (by decide) (by omega) (by omega)) dX3_takeFountain_85 ?_
          refine jx_eq (ws' := wsX G a (setc (setc x 1 (updI T (21 + 5 * ((x 1) 4) + 3) ((tnR (x 3) (stR (x 3) R) 0 99) 6))) 9 (tnR (x 3) (stR (x 3) R) 0 99))) (congrArg (wsX G a) (by first | rfl | (rw [setc_setc]; rfl) | exact setc_in _ _ _ _ (by decide) | exact setc_in2 _ _ _ _ _ (by decide) (by decide) | (rw [setc_in _ _ _ _ (by decide), setc_in _ _ _ _ (by decide)]; rfl) | (rw [setc_in _ _ _ _ (by decide), setc_setc]; rfl) | (simp only [setc_setc, setc_at]; done) | (simp only [setc_setc, setc_at]; rfl) | (funext d; simp only [setc_app]; (repeat' split) <;> first | rfl | omega))) ?_
          exact JN88 _ _ (u4 (t := T) (by omega) (by omega)) hb.1 (by rw [← hq]; unfold tuC; rw [if_pos (by omega), if_pos (by omega)])
        · skip
          refine jx_eq (ws' := wsX G a (setc (setc x 1 T) 9 (stR (x 3) R))) (congrArg (wsX G a) (by rw [tn_no (by omega)])) ?_
          refine jx_iconst E dX3_takeFountain_77 ?_
          exact jx_zret E hr dX3_takeFountain_78 (by rw [show tuA (x 3) (x 1) (x 9) kd = ((0 : Int), T, stR (x 3) R) from by rw [← hq]; unfold tuC; rw [if_pos (by omega), if_neg (by omega)]]) (by rw [show tuA (x 3) (x 1) (x 9) kd = ((0 : Int), T, stR (x 3) R) from by rw [← hq]; unfold tuC; rw [if_pos (by omega), if_neg (by omega)]]; first | done | exact congrArg (wsX G a) (by first | rfl | (funext d; simp only [setc_app]; (repeat' split) <;> first | rfl | (exfalso; omega) | (rename_i z9; subst z9; rfl)))) (by first | exact Or.inl rfl | exact Or.inr rfl | omega)
    refine jx_aload_n E 2 dX3_takeFountain_28 rfl ?_
    refine jx_ldcS E 6 (by decide) rfl dX3_takeFountain_29 ?_
    refine jx_callVi E [.ref (G.2.2 (2 + 6))] [] (c_X3_takeWord l G a (setc (setc x 1 (addP (x 1) kd)) 9 (stR (x 3) (x 9))) (wi := 6) (by decide) (show RG (x 3) (stR (x 3) (x 9)) from h1.stp)) mb_X3_takeWord mv_X3_takeWord wl_X3_48 f_X3 wx_read dX3_takeFountain_31 ?_
    refine jx_eq (ws' := wsX G a (setc (setc x 1 (addP (x 1) kd)) 9 (twR (x 3) (stR (x 3) (x 9)) 6))) (congrArg (wsX G a) (by first | rfl | (rw [setc_setc]; rfl) | exact setc_in _ _ _ _ (by decide) | exact setc_in2 _ _ _ _ _ (by decide) (by decide) | (rw [setc_in _ _ _ _ (by decide), setc_in _ _ _ _ (by decide)]; rfl) | (rw [setc_in _ _ _ _ (by decide), setc_setc]; rfl) | (simp only [setc_setc, setc_at]; done) | (simp only [setc_setc, setc_at]; rfl) | (funext d; simp only [setc_app]; (repeat' split) <;> first | rfl | omega))) ?_
    refine jx_st (st' := [vI (isR (x 3) (stR (x 3) (x 9)) 6)]) (by first | rfl | (simp only [setc_at]; done) | (simp only [setc_at]; rfl)) ?_
    refine jx_if_eq (tgt := 58) E dX3_takeFountain_34 (by decide) (fun c5 => ?_) (fun c5 => ?_)
    · skip
      have JN88 : ∀ (T2 : Int → Int) (R2 : Int → Int), (0 ≤ T2 4 ∧ T2 4 ≤ 8) → (RG (x 3) R2) → (tuD (x 3) T2 R2 (x 1 4) = tuA (x 3) (x 1) (x 9) kd) → JX p l e (rmL 7) s m args below meth c 5 G A 0 0 (QI below args s G A ((tuA (x 3) (x 1) (x 9) kd).1) (wsX G a (setc (setc x 1 ((tuA (x 3) (x 1) (x 9) kd).2.1)) 9 ((tuA (x 3) (x 1) (x 9) kd).2.2)))) (wsX G a (setc (setc x 1 T2) 9 R2)) 88 [(4, .ref (a (5 + 12 * 1 + ((x 1) 4).toNat))), (3, vI ((x 1) 4)), (0, .ref (a 39)), (1, .ref (a 13)), (2, vI kd)] [] := by
        intro T2 R2 hT42 hR2 hq2
        have o5 := isR_in (x 3) R2 8
        refine jx_aload_n E 2 dX3_takeFountain_88 rfl ?_
        refine jx_ldcS E 8 (by decide) rfl dX3_takeFountain_89 ?_
        refine jx_callVi E [.ref (G.2.2 (2 + 8))] [] (c_X3_takeWord l G a (setc (setc x 1 T2) 9 R2) (wi := 8) (by decide) hR2) mb_X3_takeWord mv_X3_takeWord wl_X3_48 f_X3 wx_read dX3_takeFountain_91 ?_
        refine jx_eq (ws' := wsX G a (setc (setc x 1 T2) 9 (twR (x 3) R2 8))) (congrArg (wsX G a) (by first | rfl | (rw [setc_setc]; rfl) | exact setc_in _ _ _ _ (by decide) | exact setc_in2 _ _ _ _ _ (by decide) (by decide) | (rw [setc_in _ _ _ _ (by decide), setc_in _ _ _ _ (by decide)]; rfl) | (rw [setc_in _ _ _ _ (by decide), setc_setc]; rfl) | (simp only [setc_setc, setc_at]; done) | (simp only [setc_setc, setc_at]; rfl) | (funext d; simp only [setc_app]; (repeat' split) <;> first | rfl | omega))) ?_
        refine jx_st (st' := [vI (isR (x 3) R2 8)]) (by first | rfl | (simp only [setc_at]; done) | (simp only [setc_at]; rfl)) ?_
        refine jx_if_eq (tgt := 103) E dX3_takeFountain_94 (by decide) (fun c6 => ?_) (fun c6 => ?_)
        · skip
          refine jx_eq (ws' := wsX G a (setc (setc x 1 T2) 9 R2)) (congrArg (wsX G a) (by rw [tw_no (by omega)])) ?_
          refine jx_iconst E dX3_takeFountain_103 ?_
          exact jx_zret E hr dX3_takeFountain_104 (by rw [show tuA (x 3) (x 1) (x 9) kd = ((1 : Int), T2, R2) from by rw [← hq2]; unfold tuD; rw [if_neg (by omega)]]) (by rw [show tuA (x 3) (x 1) (x 9) kd = ((1 : Int), T2, R2) from by rw [← hq2]; unfold tuD; rw [if_neg (by omega)]]; first | done | exact congrArg (wsX G a) (by first | rfl | (funext d; simp only [setc_app]; (repeat' split) <;> first | rfl | (exfalso; omega) | (rename_i z9; subst z9; rfl)))) (by first | exact Or.inl rfl | exact Or.inr rfl | omega)
        · skip
          refine jx_eq (ws' := wsX G a (setc (setc x 1 T2) 9 (stR (x 3) R2))) (congrArg (wsX G a) (by rw [tw_y (by omega)])) ?_
          refine jx_aload E 0 dX3_takeFountain_97 rfl ?_
          refine jx_iconst E dX3_takeFountain_99 ?_
          refine jx_put E f_X0 2 (wx_fou (j := 1) (by decide) (by omega) (by omega)) (by decide) wf_X3_111 rfl rfl rfl (Nat.le_of_ble_eq_true rfl) (wp_fou2 (j := 1) (by decide) (by omega) (by omega)) dX3_takeFountain_100 ?_
          refine jx_eq (ws' := wsX G a (setc (setc x 1 (updI T2 (21 + 5 * ((x 1) 4) + 2) 1)) 9 (stR (x 3) R2))) (congrArg (wsX G a) (by first | rfl | (rw [setc_setc]; rfl) | exact setc_in _ _ _ _ (by decide) | exact setc_in2 _ _ _ _ _ (by decide) (by decide) | (rw [setc_in _ _ _ _ (by decide), setc_in _ _ _ _ (by decide)]; rfl) | (rw [setc_in _ _ _ _ (by decide), setc_setc]; rfl) | (simp only [setc_setc, setc_at]; done) | (simp only [setc_setc, setc_at]; rfl) | (funext d; simp only [setc_app]; (repeat' split) <;> first | rfl | omega))) ?_
          refine jx_iconst E dX3_takeFountain_103 ?_
          exact jx_zret E hr dX3_takeFountain_104 (by rw [show tuA (x 3) (x 1) (x 9) kd = ((1 : Int), updI T2 (21 + 5 * ((x 1) 4) + 2) 1, stR (x 3) R2) from by rw [← hq2]; unfold tuD; rw [if_pos (by omega)]]) (by rw [show tuA (x 3) (x 1) (x 9) kd = ((1 : Int), updI T2 (21 + 5 * ((x 1) 4) + 2) 1, stR (x 3) R2) from by rw [← hq2]; unfold tuD; rw [if_pos (by omega)]]; first | done | exact congrArg (wsX G a) (by first | rfl | (funext d; simp only [setc_app]; (repeat' split) <;> first | rfl | (exfalso; omega) | (rename_i z9; subst z9; rfl)))) (by first | exact Or.inl rfl | exact Or.inr rfl | omega)
      refine jx_eq (ws' := wsX G a (setc (setc x 1 (addP (x 1) kd)) 9 (stR (x 3) (x 9)))) (congrArg (wsX G a) (by rw [tw_no (by omega)])) ?_
      exact JN58 _ _ (by omega) h1.stp (by unfold tuA tuB; rw [if_neg (by omega), if_neg (by omega)])
    · skip
      refine jx_eq (ws' := wsX G a (setc (setc x 1 (addP (x 1) kd)) 9 (stR (x 3) (stR (x 3) (x 9))))) (congrArg (wsX G a) (by rw [tw_y (by omega)])) ?_
      refine jx_aload_n E 2 dX3_takeFountain_37 rfl ?_
      refine jx_iconst E dX3_takeFountain_38 ?_
      refine jx_bipush E dX3_takeFountain_39 ?_
      refine jx_callVi E [vI 1, vI 40] [] (c_X3_takeNumber l G a (setc (setc x 1 (addP (x 1) kd)) 9 (stR (x 3) (stR (x 3) (x 9)))) (lo := 1) (hi := 40) (by unfold inR; omega) (by unfold inR; omega) (show RG (x 3) (stR (x 3) (stR (x 3) (x 9))) from h1.stp.stp)) mb_X3_takeNumber mv_X3_takeNumber wl_X3_64 f_X3 wx_read dX3_takeFountain_41 ?_
      refine jx_eq (ws' := wsX G a (setc (setc x 1 (addP (x 1) kd)) 9 (tnR (x 3) (stR (x 3) (stR (x 3) (x 9))) 1 40))) (congrArg (wsX G a) (by first | rfl | (rw [setc_setc]; rfl) | exact setc_in _ _ _ _ (by decide) | exact setc_in2 _ _ _ _ _ (by decide) (by decide) | (rw [setc_in _ _ _ _ (by decide), setc_in _ _ _ _ (by decide)]; rfl) | (rw [setc_in _ _ _ _ (by decide), setc_setc]; rfl) | (simp only [setc_setc, setc_at]; done) | (simp only [setc_setc, setc_at]; rfl) | (funext d; simp only [setc_app]; (repeat' split) <;> first | rfl | omega))) ?_
      refine jx_st (st' := [vI (tnO (stR (x 3) (stR (x 3) (x 9))) 1 40)]) (by first | rfl | (simp only [setc_at]; done) | (simp only [setc_at]; rfl)) ?_
      refine jx_if_ne (tgt := 49) E dX3_takeFountain_44 (by decide) (fun c7 => ?_) (fun c7 => ?_)
      · skip
        refine jx_aload E 0 dX3_takeFountain_49 rfl ?_
        refine jx_aload_n E 2 dX3_takeFountain_51 rfl ?_
        refine jx_get E f_X3 5 (v := vI ((tnR (x 3) (stR (x 3) (stR (x 3) (x 9))) 1 40) 6)) wx_read (by decide) wf_X3_24 (by first | rfl | (simp only [setc_at, List.getElem?_cons_zero, List.getElem?_cons_succ]; done) | (simp [setc_at]; done)) dX3_takeFountain_52 ?_
        refine jx_put E f_X0 1 (wx_fou (j := 1) (by decide) (by omega) (by omega)) (by decide) wf_X3_101 rfl rfl rfl (Nat.le_of_ble_eq_true rfl) (wp_fou1 (j := 1) (by decide) (by omega) (by omega)) dX3_takeFountain_55 ?_
        refine jx_eq (ws' := wsX G a (setc (setc x 1 (updI (addP (x 1) kd) (21 + 5 * ((x 1) 4) + 1) ((tnR (x 3) (stR (x 3) (stR (x 3) (x 9))) 1 40) 6))) 9 (tnR (x 3) (stR (x 3) (stR (x 3) (x 9))) 1 40))) (congrArg (wsX G a) (by first | rfl | (rw [setc_setc]; rfl) | exact setc_in _ _ _ _ (by decide) | exact setc_in2 _ _ _ _ _ (by decide) (by decide) | (rw [setc_in _ _ _ _ (by decide), setc_in _ _ _ _ (by decide)]; rfl) | (rw [setc_in _ _ _ _ (by decide), setc_setc]; rfl) | (simp only [setc_setc, setc_at]; done) | (simp only [setc_setc, setc_at]; rfl) | (funext d; simp only [setc_app]; (repeat' split) <;> first | rfl | omega))) ?_
        have JN88 : ∀ (T2 : Int → Int) (R2 : Int → Int), (0 ≤ T2 4 ∧ T2 4 ≤ 8) → (RG (x 3) R2) → (tuD (x 3) T2 R2 (x 1 4) = tuA (x 3) (x 1) (x 9) kd) → JX p l e (rmL 7) s m args below meth c 5 G A 0 0 (QI below args s G A ((tuA (x 3) (x 1) (x 9) kd).1) (wsX G a (setc (setc x 1 ((tuA (x 3) (x 1) (x 9) kd).2.1)) 9 ((tuA (x 3) (x 1) (x 9) kd).2.2)))) (wsX G a (setc (setc x 1 T2) 9 R2)) 88 [(4, .ref (a (5 + 12 * 1 + ((x 1) 4).toNat))), (3, vI ((x 1) 4)), (0, .ref (a 39)), (1, .ref (a 13)), (2, vI kd)] [] := by
          intro T2 R2 hT42 hR2 hq2
          have o5 := isR_in (x 3) R2 8
          refine jx_aload_n E 2 dX3_takeFountain_88 rfl ?_
          refine jx_ldcS E 8 (by decide) rfl dX3_takeFountain_89 ?_
          refine jx_callVi E [.ref (G.2.2 (2 + 8))] [] (c_X3_takeWord l G a (setc (setc x 1 T2) 9 R2) (wi := 8) (by decide) hR2) mb_X3_takeWord mv_X3_takeWord wl_X3_48 f_X3 wx_read dX3_takeFountain_91 ?_
          refine jx_eq (ws' := wsX G a (setc (setc x 1 T2) 9 (twR (x 3) R2 8))) (congrArg (wsX G a) (by first | rfl | (rw [setc_setc]; rfl) | exact setc_in _ _ _ _ (by decide) | exact setc_in2 _ _ _ _ _ (by decide) (by decide) | (rw [setc_in _ _ _ _ (by decide), setc_in _ _ _ _ (by decide)]; rfl) | (rw [setc_in _ _ _ _ (by decide), setc_setc]; rfl) | (simp only [setc_setc, setc_at]; done) | (simp only [setc_setc, setc_at]; rfl) | (funext d; simp only [setc_app]; (repeat' split) <;> first | rfl | omega))) ?_
          refine jx_st (st' := [vI (isR (x 3) R2 8)]) (by first | rfl | (simp only [setc_at]; done) | (simp only [setc_at]; rfl)) ?_
          refine jx_if_eq (tgt := 103) E dX3_takeFountain_94 (by decide) (fun c8 => ?_) (fun c8 => ?_)
          · skip
            refine jx_eq (ws' := wsX G a (setc (setc x 1 T2) 9 R2)) (congrArg (wsX G a) (by rw [tw_no (by omega)])) ?_
            refine jx_iconst E dX3_takeFountain_103 ?_
            exact jx_zret E hr dX3_takeFountain_104 (by rw [show tuA (x 3) (x 1) (x 9) kd = ((1 : Int), T2, R2) from by rw [← hq2]; unfold tuD; rw [if_neg (by omega)]]) (by rw [show tuA (x 3) (x 1) (x 9) kd = ((1 : Int), T2, R2) from by rw [← hq2]; unfold tuD; rw [if_neg (by omega)]]; first | done | exact congrArg (wsX G a) (by first | rfl | (funext d; simp only [setc_app]; (repeat' split) <;> first | rfl | (exfalso; omega) | (rename_i z9; subst z9; rfl)))) (by first | exact Or.inl rfl | exact Or.inr rfl | omega)
          · skip
            refine jx_eq (ws' := wsX G a (setc (setc x 1 T2) 9 (stR (x 3) R2))) (congrArg (wsX G a) (by rw [tw_y (by omega)])) ?_
            refine jx_aload E 0 dX3_takeFountain_97 rfl ?_
            refine jx_iconst E dX3_takeFountain_99 ?_
            refine jx_put E f_X0 2 (wx_fou (j := 1) (by decide) (by omega) (by omega)) (by decide) wf_X3_111 rfl rfl rfl (Nat.le_of_ble_eq_true rfl) (wp_fou2 (j := 1) (by decide) (by omega) (by omega)) dX3_takeFountain_100 ?_
            refine jx_eq (ws' := wsX G a (setc (setc x 1 (updI T2 (21 + 5 * ((x 1) 4) + 2) 1)) 9 (stR (x 3) R2))) (congrArg (wsX G a) (by first | rfl | (rw [setc_setc]; rfl) | exact setc_in _ _ _ _ (by decide) | exact setc_in2 _ _ _ _ _ (by decide) (by decide) | (rw [setc_in _ _ _ _ (by decide), setc_in _ _ _ _ (by decide)]; rfl) | (rw [setc_in _ _ _ _ (by decide), setc_setc]; rfl) | (simp only [setc_setc, setc_at]; done) | (simp only [setc_setc, setc_at]; rfl) | (funext d; simp only [setc_app]; (repeat' split) <;> first | rfl | omega))) ?_
            refine jx_iconst E dX3_takeFountain_103 ?_
            exact jx_zret E hr dX3_takeFountain_104 (by rw [show tuA (x 3) (x 1) (x 9) kd = ((1 : Int), updI T2 (21 + 5 * ((x 1) 4) + 2) 1, stR (x 3) R2) from by rw [← hq2]; unfold tuD; rw [if_pos (by omega)]]) (by rw [show tuA (x 3) (x 1) (x 9) kd = ((1 : Int), updI T2 (21 + 5 * ((x 1) 4) + 2) 1, stR (x 3) R2) from by rw [← hq2]; unfold tuD; rw [if_pos (by omega)]]; first | done | exact congrArg (wsX G a) (by first | rfl | (funext d; simp only [setc_app]; (repeat' split) <;> first | rfl | (exfalso; omega) | (rename_i z9; subst z9; rfl)))) (by first | exact Or.inl rfl | exact Or.inr rfl | omega)
        exact JN58 _ _ (show 0 ≤ updI (addP (x 1) kd) (21 + 5 * x 1 4 + 1) (tnR (x 3) (stR (x 3) (stR (x 3) (x 9))) 1 40 6) 4 ∧ updI (addP (x 1) kd) (21 + 5 * x 1 4 + 1) (tnR (x 3) (stR (x 3) (stR (x 3) (x 9))) 1 40 6) 4 ≤ 8 from u4 (by omega) (by omega)) ha.1 (by unfold tuA tuB; rw [if_neg (by omega), if_pos (by omega), if_pos (by omega)])
      · skip
        refine jx_eq (ws' := wsX G a (setc (setc x 1 (addP (x 1) kd)) 9 (stR (x 3) (stR (x 3) (x 9))))) (congrArg (wsX G a) (by rw [tn_no (by omega)])) ?_
        refine jx_iconst E dX3_takeFountain_47 ?_
        exact jx_zret E hr dX3_takeFountain_48 (by rw [show tuA (x 3) (x 1) (x 9) kd = ((0 : Int), addP (x 1) kd, stR (x 3) (stR (x 3) (x 9))) from by unfold tuA tuB; rw [if_neg (by omega), if_pos (by omega), if_neg (by omega)]]) (by rw [show tuA (x 3) (x 1) (x 9) kd = ((0 : Int), addP (x 1) kd, stR (x 3) (stR (x 3) (x 9))) from by unfold tuA tuB; rw [if_neg (by omega), if_pos (by omega), if_neg (by omega)]]; first | done | exact congrArg (wsX G a) (by first | rfl | (funext d; simp only [setc_app]; (repeat' split) <;> first | rfl | (exfalso; omega) | (rename_i z9; subst z9; rfl)))) (by first | exact Or.inl rfl | exact Or.inr rfl | omega)
  · skip
    exfalso; omega
theorem c_X3_takeFountain (l : Launch) (G : GT) (a : Nat → Nat) (x : MS) {kd : Int} (h1 : RG (x 3) (x 9)) (h2 : 0 ≤ x 1 4 ∧ x 1 4 ≤ 8) : CtI l G yX3_takeFountain cX3_takeFountain 5 (some .boolean) 7 [.ref (a 39), .ref (a 13), vI kd] (wsX G a x) ((tuA (x 3) (x 1) (x 9) kd).1) (wsX G a (setc (setc x 1 (tuA (x 3) (x 1) (x 9) kd).2.1) 9 (tuA (x 3) (x 1) (x 9) kd).2.2)) := by
  rcases (show x 1 4 = 8 ∨ x 1 4 < 8 by omega) with q | q
  · exact c_X3_takeFountain_f l G a x h1 q
  · exact c_X3_takeFountain_r l G a x h1 ⟨h2.1, q⟩
