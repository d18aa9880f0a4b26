/-! 45.xe: laid by the walker out of specXE -/
theorem wp_numsU {G : GT} {a : Nat → Nat} {x : MS} {d : Int} (h0 : 0 ≤ d) (h4 : d < 4) (u : Int → Int) (hu : ∀ k : Int, (k < 40 * d ∨ 40 * d + 40 ≤ k) → u k = x 5 k) : (wsX G a x).set (42 + 2 * d.toNat) (a (42 + 2 * d.toNat), .inl (G.2.1 1, 40, .inr (.inl (rowL u (40 * d) 40)))) = wsX G a (setc x 5 u) := by
  have r0 : ∀ z : Int, 0 ≤ z → z ≤ 3 → z ≠ d → rowL u (40 * z) 40 = rowL (x 5) (40 * z) 40 := by
    intro z z0 z3 zd
    funext k
    simp only [rowL]
    by_cases hk : k < 40
    · rw [if_pos hk, if_pos hk, hu _ (by omega)]
    · rw [if_neg hk, if_neg hk]
  rcases (show d = 0 ∨ d = 1 ∨ d = 2 ∨ d = 3 by omega) with e | e | e | e <;> subst e
  · have e1 := r0 1 (by decide) (by decide) (by decide)
    have e2 := r0 2 (by decide) (by decide) (by decide)
    have e3 := r0 3 (by decide) (by decide) (by decide)
    simp only [Int.reduceMul] at e1 e2 e3
    exact (wx_setR (k := 5) (by simp only [wsR, setc_app, Int.reduceMul]; simp [e1, e2, e3]) (by simp [setc_app]) (by simp [setc_app]) (by simp [setc_app]) (by simp [setc_app]))
  · have e0 := r0 0 (by decide) (by decide) (by decide)
    have e2 := r0 2 (by decide) (by decide) (by decide)
    have e3 := r0 3 (by decide) (by decide) (by decide)
    simp only [Int.reduceMul] at e0 e2 e3
    exact (wx_setR (k := 7) (by simp only [wsR, setc_app, Int.reduceMul]; simp [e0, e2, e3]) (by simp [setc_app]) (by simp [setc_app]) (by simp [setc_app]) (by simp [setc_app]))
  · have e0 := r0 0 (by decide) (by decide) (by decide)
    have e1 := r0 1 (by decide) (by decide) (by decide)
    have e3 := r0 3 (by decide) (by decide) (by decide)
    simp only [Int.reduceMul] at e0 e1 e3
    exact (wx_setR (k := 9) (by simp only [wsR, setc_app, Int.reduceMul]; simp [e0, e1, e3]) (by simp [setc_app]) (by simp [setc_app]) (by simp [setc_app]) (by simp [setc_app]))
  · have e0 := r0 0 (by decide) (by decide) (by decide)
    have e1 := r0 1 (by decide) (by decide) (by decide)
    have e2 := r0 2 (by decide) (by decide) (by decide)
    simp only [Int.reduceMul] at e0 e1 e2
    exact (wx_setR (k := 11) (by simp only [wsR, setc_app, Int.reduceMul]; simp [e0, e1, e2]) (by simp [setc_app]) (by simp [setc_app]) (by simp [setc_app]) (by simp [setc_app]))
theorem cpy_L (u : Int → Int) {b d f g n : Int} (h : 0 ≤ f ∧ 0 ≤ g ∧ 0 ≤ n ∧ f + n ≤ 40 ∧ g + n ≤ 40) : va_cpy (rowL u b 40) (rowL u d 40) f.toNat g.toNat n.toNat = rowL (cpP u (b + f) (d + g) n) d 40 := by
  funext k
  simp only [va_cpy, rowL, cpP]
  by_cases hk : k < 40
  · by_cases hq : g.toNat ≤ k ∧ k < g.toNat + n.toNat
    · rw [if_pos hq, if_pos (by omega), if_pos hk, if_pos (by omega)]
      congr 2
      omega
    · rw [if_neg hq, if_pos hk, if_pos hk, if_neg (by omega)]
  · rw [if_neg (by omega), if_neg hk, if_neg hk]
theorem wp_copy {G : GT} {a : Nat → Nat} {x : MS} {b d f g n : Int} (hd : 0 ≤ d ∧ d < 4) (h : 0 ≤ f ∧ 0 ≤ g ∧ 0 ≤ n ∧ f + n ≤ 40 ∧ g + n ≤ 40) : (wsX G a x).set (42 + 2 * d.toNat) (a (42 + 2 * d.toNat), .inl (G.2.1 1, 40, .inr (.inl (va_cpy (rowL (x 5) (40 * b) 40) (rowL (x 5) (40 * d) 40) f.toNat g.toNat n.toNat)))) = wsX G a (setc x 5 (cpP (x 5) (40 * b + f) (40 * d + g) n)) := by
  rw [cpy_L (x 5) h]
  exact wp_numsU hd.1 hd.2 _ (fun k hk => by simp only [cpP]; rw [if_neg (by omega)])
theorem jx_copyl {p : Program} {l : Launch} {e : Env} {R : Room} {s : State} {m : MethodId} {args : Array Value} {below : List Frame} {meth : Method} {c : Code} {nL : Nat} {G : GT} {A : Nat → Prop} {kc ks : Nat} {Q : State → Prop} {ws : va_W} {pc : Nat} {lv : List (Nat × Value)} {st : List Value} {cc : ByteArray} {own : String} (E : CT p s m args meth c nL G A cc own) {i : Nat} (hlink : Cond.methodLink own i arraycopyName ∈ TB) {q0 q1 o0 o1 n0 n1 : Nat} {f g : Nat → Int64} {sp dp n : Int} (ha0 : ws[q0]? = some (o0, .inl (G.2.1 1, n0, .inr (.inl f)))) (ha1 : ws[q1]? = some (o1, .inl (G.2.1 1, n1, .inr (.inl g)))) {ws' : va_W} (hs : ws.set q1 (o1, .inl (G.2.1 1, n1, .inr (.inl (va_cpy f g sp.toNat dp.toNat n.toNat)))) = ws') (h1 : 0 ≤ sp) (h2 : 0 ≤ dp) (h3 : 0 ≤ n) (h4 : sp + n ≤ n0) (h5 : dp + n ≤ n1) (hn0 : n0 ≤ 2147483647) (hn1 : n1 ≤ 2147483647) (hd : decode cc pc = .ok (.invokestatic i, 3)) (k : JX p l e R s m args below meth c nL G A kc ks Q ws' (pc + 3) lv st) (hRf : 1 ≤ R.frames := by decide) (hRl : (st.map fun v => v.category).sum + (nativeFrameWords "java/lang/System" "arraycopy" 5 + 11) ≤ R.locals := by exact Nat.le_of_ble_eq_true rfl) : JX p l e R s m args below meth c nL G A kc ks Q ws pc lv (vI n :: vI dp :: .ref o1 :: vI sp :: .ref o0 :: st) := fun hD H locs ls hP hS hl => by
  have z : ∀ {v : Int}, 0 ≤ v → v ≤ 2147483647 → ¬ iI v < 0 := fun {v} a b h => by have := (iI_lt (y := 0) ⟨by omega, b⟩ ⟨by decide, by decide⟩).mp h; omega
  refine va_copyl E.1 E.2.1 (by rw [E.2.2.1, hl.1]) E.2.2.2.1 (E.2.2.2.2.1 _ hlink) (E.2.2.2.2.1 _ mm_copy.1) (E.2.2.2.2.1 _ mm_copy.2.1) (E.2.2.2.2.1 _ mm_copy.2.2) E.2.2.2.2.2.1 hP hD hS q0 q1 1 1 (ty := .long) ha0 ha1 rfl rfl rfl (z h1 (by omega)) (z h2 (by omega)) (z h3 (by omega)) (by rw [iI_cl h1 (by omega), iI_cl h3 (by omega)]; omega) (by rw [iI_cl h2 (by omega), iI_cl h3 (by omega)]; omega) (fun _ _ => rfl) hRf hRl hd ?_
  rw [iI_cl h1 (by omega), iI_cl h2 (by omega), iI_cl h3 (by omega), hs]
  exact fun H1 locs1 hP1 hD1 hS1 => k hD1 H1 locs1 ls hP1 hS1 hl
set_option maxHeartbeats 4000000 in
theorem c_X5_copy (l : Launch) (G : GT) (a : Nat → Nat) (x : MS) {sh f th g n : Int} (h1 : ∀ s, 0 ≤ s → s ≤ 3 → VS (x 9 (7 + 2 * s)) (x 9 (8 + 2 * s)) (shX x s)) (h2 : inR sh) (h3 : inR f) (h4 : inR th) (h5 : inR g) (h6 : inR n) : CtI l G yX5_copy cX5_copy 8 (some .int) 2 [.ref (a 0), vI sh, vI f, vI th, vI g, vI n] (wsX G a x) (if whyC (x 9 (7 + 2 * sh)) (x 9 (8 + 2 * sh)) (x 9 (7 + 2 * th)) (x 9 (8 + 2 * th)) sh f th g n ≠ 0 then whyC (x 9 (7 + 2 * sh)) (x 9 (8 + 2 * sh)) (x 9 (7 + 2 * th)) (x 9 (8 + 2 * th)) sh f th g n else n) (wsX G a (endX (if whyC (x 9 (7 + 2 * sh)) (x 9 (8 + 2 * sh)) (x 9 (7 + 2 * th)) (x 9 (8 + 2 * th)) sh f th g n = 0 then setc x 5 (cpP (x 5) (40 * sh + f) (40 * th + g) n) else x) (if whyC (x 9 (7 + 2 * sh)) (x 9 (8 + 2 * sh)) (x 9 (7 + 2 * th)) (x 9 (8 + 2 * th)) sh f th g n ≠ 0 then whyC (x 9 (7 + 2 * sh)) (x 9 (8 + 2 * sh)) (x 9 (7 + 2 * th)) (x 9 (8 + 2 * th)) sh f th g n else n))) := by
  have hS := h1
  unfold inR at h2 h3 h4 h5 h6
  have hbs : vSheet sh → vBits (x 9 (7 + 2 * sh)) := fun q => (hS sh q.1 q.2).1
  have hzs : vSheet sh → 0 ≤ x 9 (8 + 2 * sh) ∧ x 9 (8 + 2 * sh) ≤ 40 := fun q => ⟨(hS sh q.1 q.2).2.1, (hS sh q.1 q.2).2.2.1⟩
  have hbt : vSheet th → vBits (x 9 (7 + 2 * th)) := fun q => (hS th q.1 q.2).1
  have hzt : vSheet th → 0 ≤ x 9 (8 + 2 * th) ∧ x 9 (8 + 2 * th) ≤ 40 := fun q => ⟨(hS th q.1 q.2).2.1, (hS th q.1 q.2).2.2.1⟩
  refine CtI.of (by decide) (Nat.le_of_ble_eq_true rfl) ?_
  intro p e s m args below meth c A E hr
  refine jx_lv (lv' := [(0, .ref (a 0)), (1, vI sh), (2, vI f), (3, vI th), (4, vI g), (5, vI n)]) [0, 1, 2, 3, 4, 5] rfl ?_
  refine jx_iload_n E 1 dX5_copy_0 rfl ?_
  refine jx_callSi E [vI sh] [] (c_X5_isSheet l G (wsX G a x) (n := sh) (by unfold inR; omega)) mb_X5_isSheet ms_X5_isSheet wl_X5_202 dX5_copy_1 ?_
  refine jx_if_eq (tgt := 14) E dX5_copy_4 (by decide) (fun c1 => ?_) (fun c1 => ?_)
  · skip
    refine jx_aload_n E 0 dX5_copy_14 rfl ?_
    refine jx_ldc E wc_X5_53 dX5_copy_15 ?_
    refine jx_callVi E [vI (-1000000001)] [] (c_X5_found l G a x (f := (-1000000001)) (by omega)) mb_X5_found mv_X5_found wl_X5_54 f_X5 wx_obj dX5_copy_17 ?_
    exact jx_iret E hr dX5_copy_20 (by have e : whyC (x 9 (7 + 2 * sh)) (x 9 (8 + 2 * sh)) (x 9 (7 + 2 * th)) (x 9 (8 + 2 * th)) sh f th g n = (-1000000001) := (by simp only [whyC]; omega); rw [e, if_pos (by decide)]) (by have e : whyC (x 9 (7 + 2 * sh)) (x 9 (8 + 2 * sh)) (x 9 (7 + 2 * th)) (x 9 (8 + 2 * th)) sh f th g n = (-1000000001) := (by simp only [whyC]; omega); rw [e, if_neg (show ¬ (((-1000000001) : Int) = 0) by decide), if_pos (show ((-1000000001) : Int) ≠ 0 by decide), endX_f (by decide)])
  · skip
    refine jx_iload_n E 3 dX5_copy_7 rfl ?_
    refine jx_callSi E [vI th] [] (c_X5_isSheet l G (wsX G a x) (n := th) (by unfold inR; omega)) mb_X5_isSheet ms_X5_isSheet wl_X5_202 dX5_copy_8 ?_
    refine jx_if_ne (tgt := 21) E dX5_copy_11 (by decide) (fun c2 => ?_) (fun c2 => ?_)
    · skip
      refine jx_aload_n E 0 dX5_copy_21 rfl ?_
      refine jx_get E f_X5 6 (v := .ref (a 40)) wx_obj (by decide) wf_X5_45 rfl dX5_copy_22 ?_
      refine jx_iload_n E 1 dX5_copy_25 rfl ?_
      refine jx_aald E 3 (y := a (41 + 2 * sh.toNat)) wx_shts rfl rfl (by omega) (by omega) (by decide) dX5_copy_26 ?_
      refine jx_astore E dX5_copy_27 (by decide) [(6, .ref (a (41 + 2 * sh.toNat))), (0, .ref (a 0)), (1, vI sh), (2, vI f), (3, vI th), (4, vI g), (5, vI n)] rfl ?_
      have zs := hzs (by omega)
      have zt := hzt (by omega)
      refine jx_aload_n E 1 dX5_copy_29 rfl ?_
      refine jx_get E f_X5 6 (v := .ref (a 40)) wx_obj (by decide) wf_X5_45 rfl dX5_copy_30 ?_
      refine jx_iload_n E 4 dX5_copy_33 rfl ?_
      refine jx_aald E 3 (y := a (41 + 2 * th.toNat)) wx_shts rfl rfl (by omega) (by omega) (by decide) dX5_copy_34 ?_
      refine jx_astore E dX5_copy_35 (by decide) [(7, .ref (a (41 + 2 * th.toNat))), (6, .ref (a (41 + 2 * sh.toNat))), (0, .ref (a 0)), (1, vI sh), (2, vI f), (3, vI th), (4, vI g), (5, vI n)] rfl ?_
      refine jx_aload E 1 dX5_copy_37 rfl ?_
      refine jx_callVi E [] [] (c_X1_isMissing l G a x (sh := sh) (by omega) (hbs (by omega))) mb_X1_isMissing mv_X1_isMissing wl_X5_222 f_X1 (wx_sht (by omega) (by omega)) dX5_copy_39 ?_
      refine jx_if_ne (tgt := 53) E dX5_copy_42 (by decide) (fun c3 => ?_) (fun c3 => ?_)
      · skip
        refine jx_aload_n E 2 dX5_copy_53 rfl ?_
        refine jx_ldc E wc_X5_225 dX5_copy_54 ?_
        refine jx_callVi E [vI (-1000000006)] [] (c_X5_found l G a x (f := (-1000000006)) (by omega)) mb_X5_found mv_X5_found wl_X5_54 f_X5 wx_obj dX5_copy_56 ?_
        exact jx_iret E hr dX5_copy_59 (by have e : whyC (x 9 (7 + 2 * sh)) (x 9 (8 + 2 * sh)) (x 9 (7 + 2 * th)) (x 9 (8 + 2 * th)) sh f th g n = (-1000000006) := (by simp only [whyC]; omega); rw [e, if_pos (by decide)]) (by have e : whyC (x 9 (7 + 2 * sh)) (x 9 (8 + 2 * sh)) (x 9 (7 + 2 * th)) (x 9 (8 + 2 * th)) sh f th g n = (-1000000006) := (by simp only [whyC]; omega); rw [e, if_neg (show ¬ (((-1000000006) : Int) = 0) by decide), if_pos (show ((-1000000006) : Int) ≠ 0 by decide), endX_f (by decide)])
      · skip
        refine jx_aload E 0 dX5_copy_45 rfl ?_
        refine jx_callVi E [] [] (c_X1_isMissing l G a x (sh := th) (by omega) (hbt (by omega))) mb_X1_isMissing mv_X1_isMissing wl_X5_222 f_X1 (wx_sht (by omega) (by omega)) dX5_copy_47 ?_
        refine jx_if_eq (tgt := 60) E dX5_copy_50 (by decide) (fun c4 => ?_) (fun c4 => ?_)
        · skip
          refine jx_aload E 1 dX5_copy_60 rfl ?_
          refine jx_get E f_X1 0 (v := vI ((x 9) (7 + 2 * sh))) (wx_sht (by omega) (by omega)) (by decide) wf_X5_226 rfl dX5_copy_62 ?_
          refine jx_aload E 0 dX5_copy_65 rfl ?_
          refine jx_get E f_X1 0 (v := vI ((x 9) (7 + 2 * th))) (wx_sht (by omega) (by omega)) (by decide) wf_X5_226 rfl dX5_copy_67 ?_
          refine jx_icmp_eq (tgt := 80) E dX5_copy_70 (by decide) (fun c5 => ?_) (fun c5 => ?_)
          · skip
            refine jx_aload E 1 dX5_copy_80 rfl ?_
            refine jx_iload_n E 4 dX5_copy_82 rfl ?_
            refine jx_iload E 7 dX5_copy_83 rfl ?_
            refine jx_callVi E [vI f, vI n] [] (c_X1_hasFrom l G a x (f := f) (n := n) (sh := sh) (by omega) (hzs (by omega)) (by unfold inR; omega) (by unfold inR; omega)) mb_X1_hasFrom mv_X1_hasFrom wl_X5_229 f_X1 (wx_sht (by omega) (by omega)) dX5_copy_85 ?_
            refine jx_if_eq (tgt := 103) E dX5_copy_88 (by decide) (fun c6 => ?_) (fun c6 => ?_)
            · skip
              refine jx_aload_n E 2 dX5_copy_103 rfl ?_
              refine jx_ldc E wc_X5_53 dX5_copy_104 ?_
              refine jx_callVi E [vI (-1000000001)] [] (c_X5_found l G a x (f := (-1000000001)) (by omega)) mb_X5_found mv_X5_found wl_X5_54 f_X5 wx_obj dX5_copy_106 ?_
              exact jx_iret E hr dX5_copy_109 (by have e : whyC (x 9 (7 + 2 * sh)) (x 9 (8 + 2 * sh)) (x 9 (7 + 2 * th)) (x 9 (8 + 2 * th)) sh f th g n = (-1000000001) := (by simp only [whyC]; omega); rw [e, if_pos (by decide)]) (by have e : whyC (x 9 (7 + 2 * sh)) (x 9 (8 + 2 * sh)) (x 9 (7 + 2 * th)) (x 9 (8 + 2 * th)) sh f th g n = (-1000000001) := (by simp only [whyC]; omega); rw [e, if_neg (show ¬ (((-1000000001) : Int) = 0) by decide), if_pos (show ((-1000000001) : Int) ≠ 0 by decide), endX_f (by decide)])
            · skip
              refine jx_aload E 0 dX5_copy_91 rfl ?_
              refine jx_iload E 6 dX5_copy_93 rfl ?_
              refine jx_iload E 7 dX5_copy_95 rfl ?_
              refine jx_callVi E [vI g, vI n] [] (c_X1_hasFrom l G a x (f := g) (n := n) (sh := th) (by omega) (hzt (by omega)) (by unfold inR; omega) (by unfold inR; omega)) mb_X1_hasFrom mv_X1_hasFrom wl_X5_229 f_X1 (wx_sht (by omega) (by omega)) dX5_copy_97 ?_
              refine jx_if_ne (tgt := 110) E dX5_copy_100 (by decide) (fun c7 => ?_) (fun c7 => ?_)
              · skip
                refine jx_aload E 1 dX5_copy_110 rfl ?_
                refine jx_get E f_X1 2 (v := .ref (a (42 + 2 * sh.toNat))) (wx_sht (by omega) (by omega)) (by decide) wf_X5_214 rfl dX5_copy_112 ?_
                refine jx_iload_n E 4 dX5_copy_115 rfl ?_
                refine jx_aload E 0 dX5_copy_116 rfl ?_
                refine jx_get E f_X1 2 (v := .ref (a (42 + 2 * th.toNat))) (wx_sht (by omega) (by omega)) (by decide) wf_X5_214 rfl dX5_copy_118 ?_
                refine jx_iload E 6 dX5_copy_121 rfl ?_
                refine jx_iload E 7 dX5_copy_123 rfl ?_
                refine jx_copyl E wl_X5_232 (wx_nums (by omega) (by omega)) (wx_nums (by omega) (by omega)) (wp_copy (b := sh) (by omega) (by omega)) (by omega) (by omega) (by omega) (by omega) (by omega) (by decide) (by decide) dX5_copy_125 ?_
                refine jx_iload E 7 dX5_copy_128 rfl ?_
                exact jx_iret E hr dX5_copy_130 (by have e : whyC (x 9 (7 + 2 * sh)) (x 9 (8 + 2 * sh)) (x 9 (7 + 2 * th)) (x 9 (8 + 2 * th)) sh f th g n = 0 := (by simp only [whyC]; omega); rw [e, if_neg (by decide)]) (by have e : whyC (x 9 (7 + 2 * sh)) (x 9 (8 + 2 * sh)) (x 9 (7 + 2 * th)) (x 9 (8 + 2 * th)) sh f th g n = 0 := (by simp only [whyC]; omega); rw [e, if_pos rfl, if_neg (show ¬ ((0 : Int) ≠ 0) by decide), endX_n (by omega)])
              · skip
                refine jx_aload_n E 2 dX5_copy_103 rfl ?_
                refine jx_ldc E wc_X5_53 dX5_copy_104 ?_
                refine jx_callVi E [vI (-1000000001)] [] (c_X5_found l G a x (f := (-1000000001)) (by omega)) mb_X5_found mv_X5_found wl_X5_54 f_X5 wx_obj dX5_copy_106 ?_
                exact jx_iret E hr dX5_copy_109 (by have e : whyC (x 9 (7 + 2 * sh)) (x 9 (8 + 2 * sh)) (x 9 (7 + 2 * th)) (x 9 (8 + 2 * th)) sh f th g n = (-1000000001) := (by simp only [whyC]; omega); rw [e, if_pos (by decide)]) (by have e : whyC (x 9 (7 + 2 * sh)) (x 9 (8 + 2 * sh)) (x 9 (7 + 2 * th)) (x 9 (8 + 2 * th)) sh f th g n = (-1000000001) := (by simp only [whyC]; omega); rw [e, if_neg (show ¬ (((-1000000001) : Int) = 0) by decide), if_pos (show ((-1000000001) : Int) ≠ 0 by decide), endX_f (by decide)])
          · skip
            refine jx_aload_n E 2 dX5_copy_73 rfl ?_
            refine jx_ldc E wc_X5_149 dX5_copy_74 ?_
            refine jx_callVi E [vI (-1000000003)] [] (c_X5_found l G a x (f := (-1000000003)) (by omega)) mb_X5_found mv_X5_found wl_X5_54 f_X5 wx_obj dX5_copy_76 ?_
            exact jx_iret E hr dX5_copy_79 (by have e : whyC (x 9 (7 + 2 * sh)) (x 9 (8 + 2 * sh)) (x 9 (7 + 2 * th)) (x 9 (8 + 2 * th)) sh f th g n = (-1000000003) := (by simp only [whyC]; omega); rw [e, if_pos (by decide)]) (by have e : whyC (x 9 (7 + 2 * sh)) (x 9 (8 + 2 * sh)) (x 9 (7 + 2 * th)) (x 9 (8 + 2 * th)) sh f th g n = (-1000000003) := (by simp only [whyC]; omega); rw [e, if_neg (show ¬ (((-1000000003) : Int) = 0) by decide), if_pos (show ((-1000000003) : Int) ≠ 0 by decide), endX_f (by decide)])
        · skip
          refine jx_aload_n E 2 dX5_copy_53 rfl ?_
          refine jx_ldc E wc_X5_225 dX5_copy_54 ?_
          refine jx_callVi E [vI (-1000000006)] [] (c_X5_found l G a x (f := (-1000000006)) (by omega)) mb_X5_found mv_X5_found wl_X5_54 f_X5 wx_obj dX5_copy_56 ?_
          exact jx_iret E hr dX5_copy_59 (by have e : whyC (x 9 (7 + 2 * sh)) (x 9 (8 + 2 * sh)) (x 9 (7 + 2 * th)) (x 9 (8 + 2 * th)) sh f th g n = (-1000000006) := (by simp only [whyC]; omega); rw [e, if_pos (by decide)]) (by have e : whyC (x 9 (7 + 2 * sh)) (x 9 (8 + 2 * sh)) (x 9 (7 + 2 * th)) (x 9 (8 + 2 * th)) sh f th g n = (-1000000006) := (by simp only [whyC]; omega); rw [e, if_neg (show ¬ (((-1000000006) : Int) = 0) by decide), if_pos (show ((-1000000006) : Int) ≠ 0 by decide), endX_f (by decide)])
    · skip
      refine jx_aload_n E 0 dX5_copy_14 rfl ?_
      refine jx_ldc E wc_X5_53 dX5_copy_15 ?_
      refine jx_callVi E [vI (-1000000001)] [] (c_X5_found l G a x (f := (-1000000001)) (by omega)) mb_X5_found mv_X5_found wl_X5_54 f_X5 wx_obj dX5_copy_17 ?_
      exact jx_iret E hr dX5_copy_20 (by have e : whyC (x 9 (7 + 2 * sh)) (x 9 (8 + 2 * sh)) (x 9 (7 + 2 * th)) (x 9 (8 + 2 * th)) sh f th g n = (-1000000001) := (by simp only [whyC]; omega); rw [e, if_pos (by decide)]) (by have e : whyC (x 9 (7 + 2 * sh)) (x 9 (8 + 2 * sh)) (x 9 (7 + 2 * th)) (x 9 (8 + 2 * th)) sh f th g n = (-1000000001) := (by simp only [whyC]; omega); rw [e, if_neg (show ¬ (((-1000000001) : Int) = 0) by decide), if_pos (show ((-1000000001) : Int) ≠ 0 by decide), endX_f (by decide)])
