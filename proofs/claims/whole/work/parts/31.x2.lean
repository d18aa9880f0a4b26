/-! 31.x2: laid by the walker out of specX2 -/
theorem wl_X4_41 : Cond.methodLink RX4 41 arraycopyName ∈ TB := tb_of (List.mem_append_right _ (List.mem_of_getElem? (i := 375) (by decide +kernel))) (by decide +kernel)
theorem wl_X5_232 : Cond.methodLink RX5 232 arraycopyName ∈ TB := tb_of (List.mem_append_right _ (List.mem_of_getElem? (i := 620) (by decide +kernel))) (by decide +kernel)
theorem mm_copy : Cond.native arraycopyName ∈ TB ∧ Cond.static arraycopyName ∈ TB ∧ Cond.initialized "java/lang/System" ∈ TB := ⟨tb_of (List.mem_append_right _ (List.mem_of_getElem? (i := 377) (by decide +kernel))) (by decide +kernel), tb_of (List.mem_append_right _ (List.mem_of_getElem? (i := 376) (by decide +kernel))) (by decide +kernel), tb_of (List.mem_append_right _ (List.mem_of_getElem? (i := 9) (by decide +kernel))) (by decide +kernel)⟩
theorem jx_copyi {p : Program} {l : Launch} {e : Env} {R : Room} {s : State} {m : MethodId} {args : Array Value} {below : List Frame} {meth : Method} {c : Code} {nL : Nat} {G : GT} {A : Nat → Prop} {kc ks : Nat} {Q : State → Prop} {ws : va_W} {pc : Nat} {lv : List (Nat × Value)} {st : List Value} {cc : ByteArray} {own : String} (E : CT p s m args meth c nL G A cc own) {i : Nat} (hlink : Cond.methodLink own i arraycopyName ∈ TB) {q0 q1 o0 o1 n0 n1 : Nat} {f g : Nat → Int32} {sp dp n : Int} (ha0 : ws[q0]? = some (o0, .inl (G.2.1 0, n0, .inl f))) (ha1 : ws[q1]? = some (o1, .inl (G.2.1 0, n1, .inl g))) {ws' : va_W} (hs : ws.set q1 (o1, .inl (G.2.1 0, n1, .inl (va_cpy f g sp.toNat dp.toNat n.toNat))) = ws') (h1 : 0 ≤ sp) (h2 : 0 ≤ dp) (h3 : 0 ≤ n) (h4 : sp + n ≤ n0) (h5 : dp + n ≤ n1) (hn0 : n0 ≤ 2147483647) (hn1 : n1 ≤ 2147483647) (hd : decode cc pc = .ok (.invokestatic i, 3)) (k : JX p l e R s m args below meth c nL G A kc ks Q ws' (pc + 3) lv st) (hRf : 1 ≤ R.frames := by decide) (hRl : (st.map fun v => v.category).sum + (nativeFrameWords "java/lang/System" "arraycopy" 5 + 11) ≤ R.locals := by exact Nat.le_of_ble_eq_true rfl) : JX p l e R s m args below meth c nL G A kc ks Q ws pc lv (vI n :: vI dp :: .ref o1 :: vI sp :: .ref o0 :: st) := fun hD H locs ls hP hS hl => by
  have z : ∀ {v : Int}, 0 ≤ v → v ≤ 2147483647 → ¬ iI v < 0 := fun {v} a b h => by have := (iI_lt (y := 0) ⟨by omega, b⟩ ⟨by decide, by decide⟩).mp h; omega
  refine va_copyi E.1 E.2.1 (by rw [E.2.2.1, hl.1]) E.2.2.2.1 (E.2.2.2.2.1 _ hlink) (E.2.2.2.2.1 _ mm_copy.1) (E.2.2.2.2.1 _ mm_copy.2.1) (E.2.2.2.2.1 _ mm_copy.2.2) E.2.2.2.2.2.1 hP hD hS q0 q1 0 0 (ty := .int) ha0 ha1 rfl rfl rfl (z h1 (by omega)) (z h2 (by omega)) (z h3 (by omega)) (by rw [iI_cl h1 (by omega), iI_cl h3 (by omega)]; omega) (by rw [iI_cl h2 (by omega), iI_cl h3 (by omega)]; omega) (fun _ _ => rfl) hRf hRl hd ?_
  rw [iI_cl h1 (by omega), iI_cl h2 (by omega), iI_cl h3 (by omega), hs]
  exact fun H1 locs1 hP1 hD1 hS1 => k hD1 H1 locs1 ls hP1 hS1 hl
def blkP (t u : Int → Int) (lo hi : Int) : Int → Int := fun k => if lo ≤ k ∧ k < hi then u k else t k
def hdP (t u : Int → Int) (n : Int) : Int → Int := fun k => if 0 ≤ k ∧ k < n then u k else t k
theorem cpy8 (t u : Int → Int) (b : Int) : va_cpy (rowI u b 8) (rowI t b 8) 0 0 8 = rowI (blkP t u b (b + 8)) b 8 := by
  funext k
  simp only [va_cpy, rowI, blkP]
  by_cases h : k < 8
  · rw [if_pos (by omega), if_pos (by omega), if_pos h, if_pos (by omega)]; simp
  · rw [if_neg (by omega), if_neg h, if_neg h]
theorem wp_rains {G : GT} {a : Nat → Nat} {x : MS} {j : Nat} (hj : j < 3) (u : Int → Int) : (wsX G a x).set (2 + 12 * j) (a (2 + 12 * j), .inl (G.2.1 0, 8, .inl (va_cpy (rowI u 5 8) (rowI (x j) 5 8) 0 0 8))) = wsX G a (setc x j (blkP (x j) u 5 13)) := by
  rw [cpy8, show (5 : Int) + 8 = 13 from rfl]
  have h2 : rowI (blkP (x j) u 5 13) 13 8 = rowI (x j) 13 8 := rowI_ext (fun k a b => by simp only [blkP]; rw [if_neg (by omega)])
  have h := wx_setT (G := G) (a := a) (x := x) (k := 1) (e := (a (2 + 12 * j), .inl (G.2.1 0, 8, .inl (rowI (blkP (x j) u 5 13) 5 8)))) (t := blkP (x j) u 5 13) hj (by omega) (by match j, hj, h2 with | 0, _, h2 => simp [wsT, h2, blkP] | 1, _, h2 => simp [wsT, h2, blkP] | 2, _, h2 => simp [wsT, h2, blkP])
  rwa [show 1 + 12 * j + 1 = 2 + 12 * j by omega] at h
theorem wp_colds {G : GT} {a : Nat → Nat} {x : MS} {j : Nat} (hj : j < 3) (u : Int → Int) : (wsX G a x).set (3 + 12 * j) (a (3 + 12 * j), .inl (G.2.1 0, 8, .inl (va_cpy (rowI u 13 8) (rowI (x j) 13 8) 0 0 8))) = wsX G a (setc x j (blkP (x j) u 13 21)) := by
  rw [cpy8, show (13 : Int) + 8 = 21 from rfl]
  have h2 : rowI (blkP (x j) u 13 21) 5 8 = rowI (x j) 5 8 := rowI_ext (fun k a b => by simp only [blkP]; rw [if_neg (by omega)])
  have h := wx_setT (G := G) (a := a) (x := x) (k := 2) (e := (a (3 + 12 * j), .inl (G.2.1 0, 8, .inl (rowI (blkP (x j) u 13 21) 13 8)))) (t := blkP (x j) u 13 21) hj (by omega) (by match j, hj, h2 with | 0, _, h2 => simp [wsT, h2, blkP] | 1, _, h2 => simp [wsT, h2, blkP] | 2, _, h2 => simp [wsT, h2, blkP])
  rwa [show 1 + 12 * j + 2 = 3 + 12 * j by omega] at h
theorem hd_21 (t u : Int → Int) : updI (blkP (blkP (updI (updI (updI (updI t 0 (u 0)) 1 (u 1)) 2 (u 2)) 3 (u 3)) u 5 13) u 13 21) 4 (u 4) = hdP t u 21 := by
  funext k
  simp only [updI_app, blkP, hdP]
  (repeat' split) <;> first | rfl | (exfalso; omega) | (congr 1; omega) | (congr 1; symm; assumption) | (congr 1; assumption)
theorem hd_one (t u : Int → Int) (k : Nat) : oneP (hdP t u (21 + 5 * (k : Int))) u (k : Int) = hdP t u (21 + 5 * ((k + 1 : Nat) : Int)) := by
  funext q
  simp only [oneP, updI_app, hdP]
  (repeat' split) <;> first | rfl | (exfalso; omega) | (congr 1; omega) | (congr 1; symm; assumption) | (congr 1; assumption)
set_option maxHeartbeats 4000000 in
theorem c_X4_become_10 (l : Launch) (G : GT) (a : Nat → Nat) (x : MS) (h1 : 0 ≤ x 0 4 ∧ x 0 4 ≤ 8) : CtV l G yX4_become cX4_become 3 none 2 [.ref (a 13), .ref (a 1)] (wsX G a x) (wsX G a (setc x 1 (hdP (x 1) (x 0) (21 + 5 * (x 0) 4)))) := by
  refine CtV.of (by decide) (Nat.le_of_ble_eq_true rfl) ?_
  intro p e s m args below meth c A E hr
  refine jx_lv (lv' := [(0, .ref (a 13)), (1, .ref (a 1))]) [0, 1] rfl ?_
  refine jx_aload_n E 0 dX4_become_0 rfl ?_
  refine jx_aload_n E 1 dX4_become_1 rfl ?_
  refine jx_get E f_X4 0 (v := vI ((x 0) 0)) (wx_town (j := 0) (by decide)) (by decide) wf_X4_9 rfl dX4_become_2 ?_
  refine jx_put E f_X4 0 (wx_town (j := 1) (by decide)) (by decide) wf_X4_9 rfl rfl rfl (Nat.le_of_ble_eq_true rfl) (wp_town0 (j := 1) (by decide)) dX4_become_5 ?_
  refine jx_aload_n E 0 dX4_become_8 rfl ?_
  refine jx_aload_n E 1 dX4_become_9 rfl ?_
  refine jx_get E f_X4 1 (v := vI ((x 0) 1)) (wx_town (j := 0) (by decide)) (by decide) wf_X4_15 (by first | rfl | (simp only [setc_at, List.getElem?_cons_zero, List.getElem?_cons_succ]; done) | (simp [setc_at]; done)) dX4_become_10 ?_
  refine jx_put E f_X4 1 (wx_town (j := 1) (by decide)) (by decide) wf_X4_15 rfl rfl rfl (Nat.le_of_ble_eq_true rfl) (wp_town1 (j := 1) (by decide)) dX4_become_13 ?_
  refine jx_eq (ws' := wsX G a (setc x 1 (updI (updI (x 1) 0 ((x 0) 0)) 1 ((x 0) 1)))) (congrArg (wsX G a) (by first | rfl | (rw [setc_setc]; rfl) | exact setc_in _ _ _ _ (by decide) | exact setc_in2 _ _ _ _ _ (by decide) (by decide) | (simp only [setc_setc, setc_at]; done) | (simp only [setc_setc, setc_at]; rfl) | (funext d; simp only [setc_app]; (repeat' split) <;> first | rfl | omega))) ?_
  refine jx_aload_n E 0 dX4_become_16 rfl ?_
  refine jx_aload_n E 1 dX4_become_17 rfl ?_
  refine jx_get E f_X4 2 (v := vI ((x 0) 2)) (wx_town (j := 0) (by decide)) (by decide) wf_X4_18 (by first | rfl | (simp only [setc_at, List.getElem?_cons_zero, List.getElem?_cons_succ]; done) | (simp [setc_at]; done)) dX4_become_18 ?_
  refine jx_put E f_X4 2 (wx_town (j := 1) (by decide)) (by decide) wf_X4_18 rfl rfl rfl (Nat.le_of_ble_eq_true rfl) (wp_town2 (j := 1) (by decide)) dX4_become_21 ?_
  refine jx_eq (ws' := wsX G a (setc x 1 (updI (updI (updI (x 1) 0 ((x 0) 0)) 1 ((x 0) 1)) 2 ((x 0) 2)))) (congrArg (wsX G a) (by first | rfl | (rw [setc_setc]; rfl) | exact setc_in _ _ _ _ (by decide) | exact setc_in2 _ _ _ _ _ (by decide) (by decide) | (simp only [setc_setc, setc_at]; done) | (simp only [setc_setc, setc_at]; rfl) | (funext d; simp only [setc_app]; (repeat' split) <;> first | rfl | omega))) ?_
  refine jx_aload_n E 0 dX4_become_24 rfl ?_
  refine jx_aload_n E 1 dX4_become_25 rfl ?_
  refine jx_get E f_X4 3 (v := vI ((x 0) 3)) (wx_town (j := 0) (by decide)) (by decide) wf_X4_21 (by first | rfl | (simp only [setc_at, List.getElem?_cons_zero, List.getElem?_cons_succ]; done) | (simp [setc_at]; done)) dX4_become_26 ?_
  refine jx_put E f_X4 3 (wx_town (j := 1) (by decide)) (by decide) wf_X4_21 rfl rfl rfl (Nat.le_of_ble_eq_true rfl) (wp_town3 (j := 1) (by decide)) dX4_become_29 ?_
  refine jx_eq (ws' := wsX G a (setc x 1 (updI (updI (updI (updI (x 1) 0 ((x 0) 0)) 1 ((x 0) 1)) 2 ((x 0) 2)) 3 ((x 0) 3)))) (congrArg (wsX G a) (by first | rfl | (rw [setc_setc]; rfl) | exact setc_in _ _ _ _ (by decide) | exact setc_in2 _ _ _ _ _ (by decide) (by decide) | (simp only [setc_setc, setc_at]; done) | (simp only [setc_setc, setc_at]; rfl) | (funext d; simp only [setc_app]; (repeat' split) <;> first | rfl | omega))) ?_
  refine jx_aload_n E 1 dX4_become_32 rfl ?_
  refine jx_get E f_X4 4 (v := .ref (a 2)) (wx_town (j := 0) (by decide)) (by decide) wf_X4_24 rfl dX4_become_33 ?_
  refine jx_iconst E dX4_become_36 ?_
  refine jx_aload_n E 0 dX4_become_37 rfl ?_
  refine jx_get E f_X4 4 (v := .ref (a 14)) (wx_town (j := 1) (by decide)) (by decide) wf_X4_24 rfl dX4_become_38 ?_
  refine jx_iconst E dX4_become_41 ?_
  refine jx_bipush E dX4_become_42 ?_
  refine jx_copyi E wl_X4_41 (wx_rain (j := 0) (by decide)) (wx_rain (j := 1) (by decide)) (wp_rains (j := 1) (by decide) _) (by omega) (by omega) (by omega) (by omega) (by omega) (by decide) (by decide) dX4_become_44 ?_
  refine jx_eq (ws' := wsX G a (setc x 1 (blkP (updI (updI (updI (updI (x 1) 0 ((x 0) 0)) 1 ((x 0) 1)) 2 ((x 0) 2)) 3 ((x 0) 3)) (x 0) 5 13))) (congrArg (wsX G a) (by first | rfl | (rw [setc_setc]; rfl) | exact setc_in _ _ _ _ (by decide) | exact setc_in2 _ _ _ _ _ (by decide) (by decide) | (simp only [setc_setc, setc_at]; done) | (simp only [setc_setc, setc_at]; rfl) | (funext d; simp only [setc_app]; (repeat' split) <;> first | rfl | omega))) ?_
  refine jx_aload_n E 1 dX4_become_47 rfl ?_
  refine jx_get E f_X4 5 (v := .ref (a 3)) (wx_town (j := 0) (by decide)) (by decide) wf_X4_28 rfl dX4_become_48 ?_
  refine jx_iconst E dX4_become_51 ?_
  refine jx_aload_n E 0 dX4_become_52 rfl ?_
  refine jx_get E f_X4 5 (v := .ref (a 15)) (wx_town (j := 1) (by decide)) (by decide) wf_X4_28 rfl dX4_become_53 ?_
  refine jx_iconst E dX4_become_56 ?_
  refine jx_bipush E dX4_become_57 ?_
  refine jx_copyi E wl_X4_41 (wx_cold (j := 0) (by decide)) (wx_cold (j := 1) (by decide)) (wp_colds (j := 1) (by decide) _) (by omega) (by omega) (by omega) (by omega) (by omega) (by decide) (by decide) dX4_become_59 ?_
  refine jx_eq (ws' := wsX G a (setc x 1 (blkP (blkP (updI (updI (updI (updI (x 1) 0 ((x 0) 0)) 1 ((x 0) 1)) 2 ((x 0) 2)) 3 ((x 0) 3)) (x 0) 5 13) (x 0) 13 21))) (congrArg (wsX G a) (by first | rfl | (rw [setc_setc]; rfl) | exact setc_in _ _ _ _ (by decide) | exact setc_in2 _ _ _ _ _ (by decide) (by decide) | (simp only [setc_setc, setc_at]; done) | (simp only [setc_setc, setc_at]; rfl) | (funext d; simp only [setc_app]; (repeat' split) <;> first | rfl | omega))) ?_
  refine jx_aload_n E 0 dX4_become_62 rfl ?_
  refine jx_aload_n E 1 dX4_become_63 rfl ?_
  refine jx_get E f_X4 7 (v := vI ((x 0) 4)) (wx_town (j := 0) (by decide)) (by decide) wf_X4_37 (by first | rfl | (simp only [setc_at, List.getElem?_cons_zero, List.getElem?_cons_succ]; done) | (simp [setc_at]; done)) dX4_become_64 ?_
  refine jx_put E f_X4 7 (wx_town (j := 1) (by decide)) (by decide) wf_X4_37 rfl rfl rfl (Nat.le_of_ble_eq_true rfl) (wp_town7 (j := 1) (by decide)) dX4_become_67 ?_
  refine jx_eq (ws' := wsX G a (setc x 1 (updI (blkP (blkP (updI (updI (updI (updI (x 1) 0 ((x 0) 0)) 1 ((x 0) 1)) 2 ((x 0) 2)) 3 ((x 0) 3)) (x 0) 5 13) (x 0) 13 21) 4 ((x 0) 4)))) (congrArg (wsX G a) (by first | rfl | (rw [setc_setc]; rfl) | exact setc_in _ _ _ _ (by decide) | exact setc_in2 _ _ _ _ _ (by decide) (by decide) | (simp only [setc_setc, setc_at]; done) | (simp only [setc_setc, setc_at]; rfl) | (funext d; simp only [setc_app]; (repeat' split) <;> first | rfl | omega))) ?_
  refine jx_eq (ws' := wsX G a (setc x 1 (hdP (x 1) (x 0) 21))) (congrArg (fun z => wsX G a (setc x 1 z)) (hd_21 (x 1) (x 0))) ?_
  refine jx_iconst E dX4_become_70 ?_
  refine jx_istore_n E dX4_become_71 (by decide) [(2, vI 0), (0, .ref (a 13)), (1, .ref (a 1))] rfl ?_
  have LP72 : ∀ (n2 : Nat) (k : Nat), ((k : Int) ≤ x 0 4) → (x 0 4 - (k : Int) < n2) → JX p l e (rmL 2) s m args below meth c 3 G A 0 0 (QV below args s G A (wsX G a (setc x 1 (hdP (x 1) (x 0) (21 + 5 * (x 0) 4))))) (wsX G a (setc x 1 (hdP (x 1) (x 0) (21 + 5 * (k : Int))))) 72 [(2, vI (k : Int)), (0, .ref (a 13)), (1, .ref (a 1))] [] := by
    intro n2
    induction n2 with
    | zero => intro k q1 q2; exfalso; omega
    | succ n2 ih =>
      intro k q1 q2
      have hq4 : hdP (x 1) (x 0) (21 + 5 * (k : Int)) 4 = x 0 4 := by simp only [hdP]; rw [if_pos (by omega)]
      refine jx_iload_n E 0 dX4_become_72 rfl ?_
      refine jx_aload_n E 1 dX4_become_73 rfl ?_
      refine jx_get E f_X4 7 (v := vI ((hdP (x 1) (x 0) (21 + 5 * (k : Int))) 4)) (wx_town (j := 1) (by decide)) (by decide) wf_X4_37 (by first | rfl | (simp only [setc_at, List.getElem?_cons_zero, List.getElem?_cons_succ]; done) | (simp [setc_at]; done)) dX4_become_74 ?_
      refine jx_icmp_ge (tgt := 101) E dX4_become_77 (by decide) (fun c1 => ?_) (fun c1 => ?_)
      · skip
        exact jx_vret E hr dX4_become_101 (by rw [show (k : Int) = x 0 4 by omega])
      · skip
        refine jx_aload_n E 1 dX4_become_80 rfl ?_
        refine jx_get E f_X4 6 (v := .ref (a 16)) (wx_town (j := 1) (by decide)) (by decide) wf_X4_33 rfl dX4_become_81 ?_
        refine jx_iload_n E 0 dX4_become_84 rfl ?_
        refine jx_aald E 2 (y := a (5 + 12 * 1 + (k : Int).toNat)) (wx_row (j := 1) (by decide)) rfl rfl (by omega) (by omega) (by decide) dX4_become_85 ?_
        refine jx_aload_n E 2 dX4_become_86 rfl ?_
        refine jx_get E f_X4 6 (v := .ref (a 4)) (wx_town (j := 0) (by decide)) (by decide) wf_X4_33 rfl dX4_become_87 ?_
        refine jx_iload_n E 0 dX4_become_90 rfl ?_
        refine jx_aald E 2 (y := a (5 + 12 * 0 + (k : Int).toNat)) (wx_row (j := 0) (by decide)) rfl rfl (by omega) (by omega) (by decide) dX4_become_91 ?_
        refine jx_callVv E [.ref (a (5 + 12 * 0 + (k : Int).toNat))] [] (c_X0_become_10 l G a (setc x 1 (hdP (x 1) (x 0) (21 + 5 * (k : Int)))) (i := (k : Int)) (by omega)) mb_X0_become mv_X0_become wl_X4_47 f_X0 (wx_fou (j := 1) (by decide) (by omega) (by omega)) dX4_become_92 ?_
        refine jx_eq (ws' := wsX G a (setc x 1 (oneP (hdP (x 1) (x 0) (21 + 5 * (k : Int))) (x 0) (k : Int)))) (congrArg (wsX G a) (by first | rfl | (rw [setc_setc]; rfl) | exact setc_in _ _ _ _ (by decide) | exact setc_in2 _ _ _ _ _ (by decide) (by decide) | (simp only [setc_setc, setc_at]; done) | (simp only [setc_setc, setc_at]; rfl) | (funext d; simp only [setc_app]; (repeat' split) <;> first | rfl | omega))) ?_
        refine jx_iinc E 0 dX4_become_95 rfl (by decide) [(2, vI ((k : Int) + 1)), (0, .ref (a 13)), (1, .ref (a 1))] rfl ?_
        refine jx_goto (tgt := 72) E dX4_become_98 (by decide) ?_
        rw [hd_one]
        exact ih (k + 1) (by omega) (by omega)
  exact LP72 9 0 (by omega) (by omega)
set_option maxHeartbeats 4000000 in
theorem c_X4_become_01 (l : Launch) (G : GT) (a : Nat → Nat) (x : MS) (h1 : 0 ≤ x 1 4 ∧ x 1 4 ≤ 8) : CtV l G yX4_become cX4_become 3 none 2 [.ref (a 1), .ref (a 13)] (wsX G a x) (wsX G a (setc x 0 (hdP (x 0) (x 1) (21 + 5 * (x 1) 4)))) := by
  refine CtV.of (by decide) (Nat.le_of_ble_eq_true rfl) ?_
  intro p e s m args below meth c A E hr
  refine jx_lv (lv' := [(0, .ref (a 1)), (1, .ref (a 13))]) [0, 1] rfl ?_
  refine jx_aload_n E 0 dX4_become_0 rfl ?_
  refine jx_aload_n E 1 dX4_become_1 rfl ?_
  refine jx_get E f_X4 0 (v := vI ((x 1) 0)) (wx_town (j := 1) (by decide)) (by decide) wf_X4_9 rfl dX4_become_2 ?_
  refine jx_put E f_X4 0 (wx_town (j := 0) (by decide)) (by decide) wf_X4_9 rfl rfl rfl (Nat.le_of_ble_eq_true rfl) (wp_town0 (j := 0) (by decide)) dX4_become_5 ?_
  refine jx_aload_n E 0 dX4_become_8 rfl ?_
  refine jx_aload_n E 1 dX4_become_9 rfl ?_
  refine jx_get E f_X4 1 (v := vI ((x 1) 1)) (wx_town (j := 1) (by decide)) (by decide) wf_X4_15 (by first | rfl | (simp only [setc_at, List.getElem?_cons_zero, List.getElem?_cons_succ]; done) | (simp [setc_at]; done)) dX4_become_10 ?_
  refine jx_put E f_X4 1 (wx_town (j := 0) (by decide)) (by decide) wf_X4_15 rfl rfl rfl (Nat.le_of_ble_eq_true rfl) (wp_town1 (j := 0) (by decide)) dX4_become_13 ?_
  refine jx_eq (ws' := wsX G a (setc x 0 (updI (updI (x 0) 0 ((x 1) 0)) 1 ((x 1) 1)))) (congrArg (wsX G a) (by first | rfl | (rw [setc_setc]; rfl) | exact setc_in _ _ _ _ (by decide) | exact setc_in2 _ _ _ _ _ (by decide) (by decide) | (simp only [setc_setc, setc_at]; done) | (simp only [setc_setc, setc_at]; rfl) | (funext d; simp only [setc_app]; (repeat' split) <;> first | rfl | omega))) ?_
  refine jx_aload_n E 0 dX4_become_16 rfl ?_
  refine jx_aload_n E 1 dX4_become_17 rfl ?_
  refine jx_get E f_X4 2 (v := vI ((x 1) 2)) (wx_town (j := 1) (by decide)) (by decide) wf_X4_18 (by first | rfl | (simp only [setc_at, List.getElem?_cons_zero, List.getElem?_cons_succ]; done) | (simp [setc_at]; done)) dX4_become_18 ?_
  refine jx_put E f_X4 2 (wx_town (j := 0) (by decide)) (by decide) wf_X4_18 rfl rfl rfl (Nat.le_of_ble_eq_true rfl) (wp_town2 (j := 0) (by decide)) dX4_become_21 ?_
  refine jx_eq (ws' := wsX G a (setc x 0 (updI (updI (updI (x 0) 0 ((x 1) 0)) 1 ((x 1) 1)) 2 ((x 1) 2)))) (congrArg (wsX G a) (by first | rfl | (rw [setc_setc]; rfl) | exact setc_in _ _ _ _ (by decide) | exact setc_in2 _ _ _ _ _ (by decide) (by decide) | (simp only [setc_setc, setc_at]; done) | (simp only [setc_setc, setc_at]; rfl) | (funext d; simp only [setc_app]; (repeat' split) <;> first | rfl | omega))) ?_
  refine jx_aload_n E 0 dX4_become_24 rfl ?_
  refine jx_aload_n E 1 dX4_become_25 rfl ?_
  refine jx_get E f_X4 3 (v := vI ((x 1) 3)) (wx_town (j := 1) (by decide)) (by decide) wf_X4_21 (by first | rfl | (simp only [setc_at, List.getElem?_cons_zero, List.getElem?_cons_succ]; done) | (simp [setc_at]; done)) dX4_become_26 ?_
  refine jx_put E f_X4 3 (wx_town (j := 0) (by decide)) (by decide) wf_X4_21 rfl rfl rfl (Nat.le_of_ble_eq_true rfl) (wp_town3 (j := 0) (by decide)) dX4_become_29 ?_
  refine jx_eq (ws' := wsX G a (setc x 0 (updI (updI (updI (updI (x 0) 0 ((x 1) 0)) 1 ((x 1) 1)) 2 ((x 1) 2)) 3 ((x 1) 3)))) (congrArg (wsX G a) (by first | rfl | (rw [setc_setc]; rfl) | exact setc_in _ _ _ _ (by decide) | exact setc_in2 _ _ _ _ _ (by decide) (by decide) | (simp only [setc_setc, setc_at]; done) | (simp only [setc_setc, setc_at]; rfl) | (funext d; simp only [setc_app]; (repeat' split) <;> first | rfl | omega))) ?_
  refine jx_aload_n E 1 dX4_become_32 rfl ?_
  refine jx_get E f_X4 4 (v := .ref (a 14)) (wx_town (j := 1) (by decide)) (by decide) wf_X4_24 rfl dX4_become_33 ?_
  refine jx_iconst E dX4_become_36 ?_
  refine jx_aload_n E 0 dX4_become_37 rfl ?_
  refine jx_get E f_X4 4 (v := .ref (a 2)) (wx_town (j := 0) (by decide)) (by decide) wf_X4_24 rfl dX4_become_38 ?_
  refine jx_iconst E dX4_become_41 ?_
  refine jx_bipush E dX4_become_42 ?_
  refine jx_copyi E wl_X4_41 (wx_rain (j := 1) (by decide)) (wx_rain (j := 0) (by decide)) (wp_rains (j := 0) (by decide) _) (by omega) (by omega) (by omega) (by omega) (by omega) (by decide) (by decide) dX4_become_44 ?_
  refine jx_eq (ws' := wsX G a (setc x 0 (blkP (updI (updI (updI (updI (x 0) 0 ((x 1) 0)) 1 ((x 1) 1)) 2 ((x 1) 2)) 3 ((x 1) 3)) (x 1) 5 13))) (congrArg (wsX G a) (by first | rfl | (rw [setc_setc]; rfl) | exact setc_in _ _ _ _ (by decide) | exact setc_in2 _ _ _ _ _ (by decide) (by decide) | (simp only [setc_setc, setc_at]; done) | (simp only [setc_setc, setc_at]; rfl) | (funext d; simp only [setc_app]; (repeat' split) <;> first | rfl | omega))) ?_
  refine jx_aload_n E 1 dX4_become_47 rfl ?_
  refine jx_get E f_X4 5 (v := .ref (a 15)) (wx_town (j := 1) (by decide)) (by decide) wf_X4_28 rfl dX4_become_48 ?_
  refine jx_iconst E dX4_become_51 ?_
  refine jx_aload_n E 0 dX4_become_52 rfl ?_
  refine jx_get E f_X4 5 (v := .ref (a 3)) (wx_town (j := 0) (by decide)) (by decide) wf_X4_28 rfl dX4_become_53 ?_
  refine jx_iconst E dX4_become_56 ?_
  refine jx_bipush E dX4_become_57 ?_
  refine jx_copyi E wl_X4_41 (wx_cold (j := 1) (by decide)) (wx_cold (j := 0) (by decide)) (wp_colds (j := 0) (by decide) _) (by omega) (by omega) (by omega) (by omega) (by omega) (by decide) (by decide) dX4_become_59 ?_
  refine jx_eq (ws' := wsX G a (setc x 0 (blkP (blkP (updI (updI (updI (updI (x 0) 0 ((x 1) 0)) 1 ((x 1) 1)) 2 ((x 1) 2)) 3 ((x 1) 3)) (x 1) 5 13) (x 1) 13 21))) (congrArg (wsX G a) (by first | rfl | (rw [setc_setc]; rfl) | exact setc_in _ _ _ _ (by decide) | exact setc_in2 _ _ _ _ _ (by decide) (by decide) | (simp only [setc_setc, setc_at]; done) | (simp only [setc_setc, setc_at]; rfl) | (funext d; simp only [setc_app]; (repeat' split) <;> first | rfl | omega))) ?_
  refine jx_aload_n E 0 dX4_become_62 rfl ?_
  refine jx_aload_n E 1 dX4_become_63 rfl ?_
  refine jx_get E f_X4 7 (v := vI ((x 1) 4)) (wx_town (j := 1) (by decide)) (by decide) wf_X4_37 (by first | rfl | (simp only [setc_at, List.getElem?_cons_zero, List.getElem?_cons_succ]; done) | (simp [setc_at]; done)) dX4_become_64 ?_
  refine jx_put E f_X4 7 (wx_town (j := 0) (by decide)) (by decide) wf_X4_37 rfl rfl rfl (Nat.le_of_ble_eq_true rfl) (wp_town7 (j := 0) (by decide)) dX4_become_67 ?_
  refine jx_eq (ws' := wsX G a (setc x 0 (updI (blkP (blkP (updI (updI (updI (updI (x 0) 0 ((x 1) 0)) 1 ((x 1) 1)) 2 ((x 1) 2)) 3 ((x 1) 3)) (x 1) 5 13) (x 1) 13 21) 4 ((x 1) 4)))) (congrArg (wsX G a) (by first | rfl | (rw [setc_setc]; rfl) | exact setc_in _ _ _ _ (by decide) | exact setc_in2 _ _ _ _ _ (by decide) (by decide) | (simp only [setc_setc, setc_at]; done) | (simp only [setc_setc, setc_at]; rfl) | (funext d; simp only [setc_app]; (repeat' split) <;> first | rfl | omega))) ?_
  refine jx_eq (ws' := wsX G a (setc x 0 (hdP (x 0) (x 1) 21))) (congrArg (fun z => wsX G a (setc x 0 z)) (hd_21 (x 0) (x 1))) ?_
  refine jx_iconst E dX4_become_70 ?_
  refine jx_istore_n E dX4_become_71 (by decide) [(2, vI 0), (0, .ref (a 1)), (1, .ref (a 13))] rfl ?_
  have LP72 : ∀ (n2 : Nat) (k : Nat), ((k : Int) ≤ x 1 4) → (x 1 4 - (k : Int) < n2) → JX p l e (rmL 2) s m args below meth c 3 G A 0 0 (QV below args s G A (wsX G a (setc x 0 (hdP (x 0) (x 1) (21 + 5 * (x 1) 4))))) (wsX G a (setc x 0 (hdP (x 0) (x 1) (21 + 5 * (k : Int))))) 72 [(2, vI (k : Int)), (0, .ref (a 1)), (1, .ref (a 13))] [] := by
    intro n2
    induction n2 with
    | zero => intro k q1 q2; exfalso; omega
    | succ n2 ih =>
      intro k q1 q2
      have hq4 : hdP (x 0) (x 1) (21 + 5 * (k : Int)) 4 = x 1 4 := by simp only [hdP]; rw [if_pos (by omega)]
      refine jx_iload_n E 0 dX4_become_72 rfl ?_
      refine jx_aload_n E 1 dX4_become_73 rfl ?_
      refine jx_get E f_X4 7 (v := vI ((hdP (x 0) (x 1) (21 + 5 * (k : Int))) 4)) (wx_town (j := 0) (by decide)) (by decide) wf_X4_37 (by first | rfl | (simp only [setc_at, List.getElem?_cons_zero, List.getElem?_cons_succ]; done) | (simp [setc_at]; done)) dX4_become_74 ?_
      refine jx_icmp_ge (tgt := 101) E dX4_become_77 (by decide) (fun c1 => ?_) (fun c1 => ?_)
      · skip
        exact jx_vret E hr dX4_become_101 (by rw [show (k : Int) = x 1 4 by omega])
      · skip
        refine jx_aload_n E 1 dX4_become_80 rfl ?_
        refine jx_get E f_X4 6 (v := .ref (a 4)) (wx_town (j := 0) (by decide)) (by decide) wf_X4_33 rfl dX4_become_81 ?_
        refine jx_iload_n E 0 dX4_become_84 rfl ?_
        refine jx_aald E 2 (y := a (5 + 12 * 0 + (k : Int).toNat)) (wx_row (j := 0) (by decide)) rfl rfl (by omega) (by omega) (by decide) dX4_become_85 ?_
        refine jx_aload_n E 2 dX4_become_86 rfl ?_
        refine jx_get E f_X4 6 (v := .ref (a 16)) (wx_town (j := 1) (by decide)) (by decide) wf_X4_33 rfl dX4_become_87 ?_
        refine jx_iload_n E 0 dX4_become_90 rfl ?_
        refine jx_aald E 2 (y := a (5 + 12 * 1 + (k : Int).toNat)) (wx_row (j := 1) (by decide)) rfl rfl (by omega) (by omega) (by decide) dX4_become_91 ?_
        refine jx_callVv E [.ref (a (5 + 12 * 1 + (k : Int).toNat))] [] (c_X0_become_01 l G a (setc x 0 (hdP (x 0) (x 1) (21 + 5 * (k : Int)))) (i := (k : Int)) (by omega)) mb_X0_become mv_X0_become wl_X4_47 f_X0 (wx_fou (j := 0) (by decide) (by omega) (by omega)) dX4_become_92 ?_
        refine jx_eq (ws' := wsX G a (setc x 0 (oneP (hdP (x 0) (x 1) (21 + 5 * (k : Int))) (x 1) (k : Int)))) (congrArg (wsX G a) (by first | rfl | (rw [setc_setc]; rfl) | exact setc_in _ _ _ _ (by decide) | exact setc_in2 _ _ _ _ _ (by decide) (by decide) | (simp only [setc_setc, setc_at]; done) | (simp only [setc_setc, setc_at]; rfl) | (funext d; simp only [setc_app]; (repeat' split) <;> first | rfl | omega))) ?_
        refine jx_iinc E 0 dX4_become_95 rfl (by decide) [(2, vI ((k : Int) + 1)), (0, .ref (a 1)), (1, .ref (a 13))] rfl ?_
        refine jx_goto (tgt := 72) E dX4_become_98 (by decide) ?_
        rw [hd_one]
        exact ih (k + 1) (by omega) (by omega)
  exact LP72 9 0 (by omega) (by omega)
set_option maxHeartbeats 4000000 in
theorem c_X4_become_20 (l : Launch) (G : GT) (a : Nat → Nat) (x : MS) (h1 : 0 ≤ x 0 4 ∧ x 0 4 ≤ 8) : CtV l G yX4_become cX4_become 3 none 2 [.ref (a 25), .ref (a 1)] (wsX G a x) (wsX G a (setc x 2 (hdP (x 2) (x 0) (21 + 5 * (x 0) 4)))) := by
  refine CtV.of (by decide) (Nat.le_of_ble_eq_true rfl) ?_
  intro p e s m args below meth c A E hr
  refine jx_lv (lv' := [(0, .ref (a 25)), (1, .ref (a 1))]) [0, 1] rfl ?_
  refine jx_aload_n E 0 dX4_become_0 rfl ?_
  refine jx_aload_n E 1 dX4_become_1 rfl ?_
  refine jx_get E f_X4 0 (v := vI ((x 0) 0)) (wx_town (j := 0) (by decide)) (by decide) wf_X4_9 rfl dX4_become_2 ?_
  refine jx_put E f_X4 0 (wx_town (j := 2) (by decide)) (by decide) wf_X4_9 rfl rfl rfl (Nat.le_of_ble_eq_true rfl) (wp_town0 (j := 2) (by decide)) dX4_become_5 ?_
  refine jx_aload_n E 0 dX4_become_8 rfl ?_
  refine jx_aload_n E 1 dX4_become_9 rfl ?_
  refine jx_get E f_X4 1 (v := vI ((x 0) 1)) (wx_town (j := 0) (by decide)) (by decide) wf_X4_15 (by first | rfl | (simp only [setc_at, List.getElem?_cons_zero, List.getElem?_cons_succ]; done) | (simp [setc_at]; done)) dX4_become_10 ?_
  refine jx_put E f_X4 1 (wx_town (j := 2) (by decide)) (by decide) wf_X4_15 rfl rfl rfl (Nat.le_of_ble_eq_true rfl) (wp_town1 (j := 2) (by decide)) dX4_become_13 ?_
  refine jx_eq (ws' := wsX G a (setc x 2 (updI (updI (x 2) 0 ((x 0) 0)) 1 ((x 0) 1)))) (congrArg (wsX G a) (by first | rfl | (rw [setc_setc]; rfl) | exact setc_in _ _ _ _ (by decide) | exact setc_in2 _ _ _ _ _ (by decide) (by decide) | (simp only [setc_setc, setc_at]; done) | (simp only [setc_setc, setc_at]; rfl) | (funext d; simp only [setc_app]; (repeat' split) <;> first | rfl | omega))) ?_
  refine jx_aload_n E 0 dX4_become_16 rfl ?_
  refine jx_aload_n E 1 dX4_become_17 rfl ?_
  refine jx_get E f_X4 2 (v := vI ((x 0) 2)) (wx_town (j := 0) (by decide)) (by decide) wf_X4_18 (by first | rfl | (simp only [setc_at, List.getElem?_cons_zero, List.getElem?_cons_succ]; done) | (simp [setc_at]; done)) dX4_become_18 ?_
  refine jx_put E f_X4 2 (wx_town (j := 2) (by decide)) (by decide) wf_X4_18 rfl rfl rfl (Nat.le_of_ble_eq_true rfl) (wp_town2 (j := 2) (by decide)) dX4_become_21 ?_
  refine jx_eq (ws' := wsX G a (setc x 2 (updI (updI (updI (x 2) 0 ((x 0) 0)) 1 ((x 0) 1)) 2 ((x 0) 2)))) (congrArg (wsX G a) (by first | rfl | (rw [setc_setc]; rfl) | exact setc_in _ _ _ _ (by decide) | exact setc_in2 _ _ _ _ _ (by decide) (by decide) | (simp only [setc_setc, setc_at]; done) | (simp only [setc_setc, setc_at]; rfl) | (funext d; simp only [setc_app]; (repeat' split) <;> first | rfl | omega))) ?_
  refine jx_aload_n E 0 dX4_become_24 rfl ?_
  refine jx_aload_n E 1 dX4_become_25 rfl ?_
  refine jx_get E f_X4 3 (v := vI ((x 0) 3)) (wx_town (j := 0) (by decide)) (by decide) wf_X4_21 (by first | rfl | (simp only [setc_at, List.getElem?_cons_zero, List.getElem?_cons_succ]; done) | (simp [setc_at]; done)) dX4_become_26 ?_
  refine jx_put E f_X4 3 (wx_town (j := 2) (by decide)) (by decide) wf_X4_21 rfl rfl rfl (Nat.le_of_ble_eq_true rfl) (wp_town3 (j := 2) (by decide)) dX4_become_29 ?_
  refine jx_eq (ws' := wsX G a (setc x 2 (updI (updI (updI (updI (x 2) 0 ((x 0) 0)) 1 ((x 0) 1)) 2 ((x 0) 2)) 3 ((x 0) 3)))) (congrArg (wsX G a) (by first | rfl | (rw [setc_setc]; rfl) | exact setc_in _ _ _ _ (by decide) | exact setc_in2 _ _ _ _ _ (by decide) (by decide) | (simp only [setc_setc, setc_at]; done) | (simp only [setc_setc, setc_at]; rfl) | (funext d; simp only [setc_app]; (repeat' split) <;> first | rfl | omega))) ?_
  refine jx_aload_n E 1 dX4_become_32 rfl ?_
  refine jx_get E f_X4 4 (v := .ref (a 2)) (wx_town (j := 0) (by decide)) (by decide) wf_X4_24 rfl dX4_become_33 ?_
  refine jx_iconst E dX4_become_36 ?_
  refine jx_aload_n E 0 dX4_become_37 rfl ?_
  refine jx_get E f_X4 4 (v := .ref (a 26)) (wx_town (j := 2) (by decide)) (by decide) wf_X4_24 rfl dX4_become_38 ?_
  refine jx_iconst E dX4_become_41 ?_
  refine jx_bipush E dX4_become_42 ?_
  refine jx_copyi E wl_X4_41 (wx_rain (j := 0) (by decide)) (wx_rain (j := 2) (by decide)) (wp_rains (j := 2) (by decide) _) (by omega) (by omega) (by omega) (by omega) (by omega) (by decide) (by decide) dX4_become_44 ?_
  refine jx_eq (ws' := wsX G a (setc x 2 (blkP (updI (updI (updI (updI (x 2) 0 ((x 0) 0)) 1 ((x 0) 1)) 2 ((x 0) 2)) 3 ((x 0) 3)) (x 0) 5 13))) (congrArg (wsX G a) (by first | rfl | (rw [setc_setc]; rfl) | exact setc_in _ _ _ _ (by decide) | exact setc_in2 _ _ _ _ _ (by decide) (by decide) | (simp only [setc_setc, setc_at]; done) | (simp only [setc_setc, setc_at]; rfl) | (funext d; simp only [setc_app]; (repeat' split) <;> first | rfl | omega))) ?_
  refine jx_aload_n E 1 dX4_become_47 rfl ?_
  refine jx_get E f_X4 5 (v := .ref (a 3)) (wx_town (j := 0) (by decide)) (by decide) wf_X4_28 rfl dX4_become_48 ?_
  refine jx_iconst E dX4_become_51 ?_
  refine jx_aload_n E 0 dX4_become_52 rfl ?_
  refine jx_get E f_X4 5 (v := .ref (a 27)) (wx_town (j := 2) (by decide)) (by decide) wf_X4_28 rfl dX4_become_53 ?_
  refine jx_iconst E dX4_become_56 ?_
  refine jx_bipush E dX4_become_57 ?_
  refine jx_copyi E wl_X4_41 (wx_cold (j := 0) (by decide)) (wx_cold (j := 2) (by decide)) (wp_colds (j := 2) (by decide) _) (by omega) (by omega) (by omega) (by omega) (by omega) (by decide) (by decide) dX4_become_59 ?_
  refine jx_eq (ws' := wsX G a (setc x 2 (blkP (blkP (updI (updI (updI (updI (x 2) 0 ((x 0) 0)) 1 ((x 0) 1)) 2 ((x 0) 2)) 3 ((x 0) 3)) (x 0) 5 13) (x 0) 13 21))) (congrArg (wsX G a) (by first | rfl | (rw [setc_setc]; rfl) | exact setc_in _ _ _ _ (by decide) | exact setc_in2 _ _ _ _ _ (by decide) (by decide) | (simp only [setc_setc, setc_at]; done) | (simp only [setc_setc, setc_at]; rfl) | (funext d; simp only [setc_app]; (repeat' split) <;> first | rfl | omega))) ?_
  refine jx_aload_n E 0 dX4_become_62 rfl ?_
  refine jx_aload_n E 1 dX4_become_63 rfl ?_
  refine jx_get E f_X4 7 (v := vI ((x 0) 4)) (wx_town (j := 0) (by decide)) (by decide) wf_X4_37 (by first | rfl | (simp only [setc_at, List.getElem?_cons_zero, List.getElem?_cons_succ]; done) | (simp [setc_at]; done)) dX4_become_64 ?_
  refine jx_put E f_X4 7 (wx_town (j := 2) (by decide)) (by decide) wf_X4_37 rfl rfl rfl (Nat.le_of_ble_eq_true rfl) (wp_town7 (j := 2) (by decide)) dX4_become_67 ?_
  refine jx_eq (ws' := wsX G a (setc x 2 (updI (blkP (blkP (updI (updI (updI (updI (x 2) 0 ((x 0) 0)) 1 ((x 0) 1)) 2 ((x 0) 2)) 3 ((x 0) 3)) (x 0) 5 13) (x 0) 13 21) 4 ((x 0) 4)))) (congrArg (wsX G a) (by first | rfl | (rw [setc_setc]; rfl) | exact setc_in _ _ _ _ (by decide) | exact setc_in2 _ _ _ _ _ (by decide) (by decide) | (simp only [setc_setc, setc_at]; done) | (simp only [setc_setc, setc_at]; rfl) | (funext d; simp only [setc_app]; (repeat' split) <;> first | rfl | omega))) ?_
  refine jx_eq (ws' := wsX G a (setc x 2 (hdP (x 2) (x 0) 21))) (congrArg (fun z => wsX G a (setc x 2 z)) (hd_21 (x 2) (x 0))) ?_
  refine jx_iconst E dX4_become_70 ?_
  refine jx_istore_n E dX4_become_71 (by decide) [(2, vI 0), (0, .ref (a 25)), (1, .ref (a 1))] rfl ?_
  have LP72 : ∀ (n2 : Nat) (k : Nat), ((k : Int) ≤ x 0 4) → (x 0 4 - (k : Int) < n2) → JX p l e (rmL 2) s m args below meth c 3 G A 0 0 (QV below args s G A (wsX G a (setc x 2 (hdP (x 2) (x 0) (21 + 5 * (x 0) 4))))) (wsX G a (setc x 2 (hdP (x 2) (x 0) (21 + 5 * (k : Int))))) 72 [(2, vI (k : Int)), (0, .ref (a 25)), (1, .ref (a 1))] [] := by
    intro n2
    induction n2 with
    | zero => intro k q1 q2; exfalso; omega
    | succ n2 ih =>
      intro k q1 q2
      have hq4 : hdP (x 2) (x 0) (21 + 5 * (k : Int)) 4 = x 0 4 := by simp only [hdP]; rw [if_pos (by omega)]
      refine jx_iload_n E 0 dX4_become_72 rfl ?_
      refine jx_aload_n E 1 dX4_become_73 rfl ?_
      refine jx_get E f_X4 7 (v := vI ((hdP (x 2) (x 0) (21 + 5 * (k : Int))) 4)) (wx_town (j := 2) (by decide)) (by decide) wf_X4_37 (by first | rfl | (simp only [setc_at, List.getElem?_cons_zero, List.getElem?_cons_succ]; done) | (simp [setc_at]; done)) dX4_become_74 ?_
      refine jx_icmp_ge (tgt := 101) E dX4_become_77 (by decide) (fun c1 => ?_) (fun c1 => ?_)
      · skip
        exact jx_vret E hr dX4_become_101 (by rw [show (k : Int) = x 0 4 by omega])
      · skip
        refine jx_aload_n E 1 dX4_become_80 rfl ?_
        refine jx_get E f_X4 6 (v := .ref (a 28)) (wx_town (j := 2) (by decide)) (by decide) wf_X4_33 rfl dX4_become_81 ?_
        refine jx_iload_n E 0 dX4_become_84 rfl ?_
        refine jx_aald E 2 (y := a (5 + 12 * 2 + (k : Int).toNat)) (wx_row (j := 2) (by decide)) rfl rfl (by omega) (by omega) (by decide) dX4_become_85 ?_
        refine jx_aload_n E 2 dX4_become_86 rfl ?_
        refine jx_get E f_X4 6 (v := .ref (a 4)) (wx_town (j := 0) (by decide)) (by decide) wf_X4_33 rfl dX4_become_87 ?_
        refine jx_iload_n E 0 dX4_become_90 rfl ?_
        refine jx_aald E 2 (y := a (5 + 12 * 0 + (k : Int).toNat)) (wx_row (j := 0) (by decide)) rfl rfl (by omega) (by omega) (by decide) dX4_become_91 ?_
        refine jx_callVv E [.ref (a (5 + 12 * 0 + (k : Int).toNat))] [] (c_X0_become_20 l G a (setc x 2 (hdP (x 2) (x 0) (21 + 5 * (k : Int)))) (i := (k : Int)) (by omega)) mb_X0_become mv_X0_become wl_X4_47 f_X0 (wx_fou (j := 2) (by decide) (by omega) (by omega)) dX4_become_92 ?_
        refine jx_eq (ws' := wsX G a (setc x 2 (oneP (hdP (x 2) (x 0) (21 + 5 * (k : Int))) (x 0) (k : Int)))) (congrArg (wsX G a) (by first | rfl | (rw [setc_setc]; rfl) | exact setc_in _ _ _ _ (by decide) | exact setc_in2 _ _ _ _ _ (by decide) (by decide) | (simp only [setc_setc, setc_at]; done) | (simp only [setc_setc, setc_at]; rfl) | (funext d; simp only [setc_app]; (repeat' split) <;> first | rfl | omega))) ?_
        refine jx_iinc E 0 dX4_become_95 rfl (by decide) [(2, vI ((k : Int) + 1)), (0, .ref (a 25)), (1, .ref (a 1))] rfl ?_
        refine jx_goto (tgt := 72) E dX4_become_98 (by decide) ?_
        rw [hd_one]
        exact ih (k + 1) (by omega) (by omega)
  exact LP72 9 0 (by omega) (by omega)
set_option maxHeartbeats 4000000 in
theorem c_X4_become_02 (l : Launch) (G : GT) (a : Nat → Nat) (x : MS) (h1 : 0 ≤ x 2 4 ∧ x 2 4 ≤ 8) : CtV l G yX4_become cX4_become 3 none 2 [.ref (a 1), .ref (a 25)] (wsX G a x) (wsX G a (setc x 0 (hdP (x 0) (x 2) (21 + 5 * (x 2) 4)))) := by
  refine CtV.of (by decide) (Nat.le_of_ble_eq_true rfl) ?_
  intro p e s m args below meth c A E hr
  refine jx_lv (lv' := [(0, .ref (a 1)), (1, .ref (a 25))]) [0, 1] rfl ?_
  refine jx_aload_n E 0 dX4_become_0 rfl ?_
  refine jx_aload_n E 1 dX4_become_1 rfl ?_
  refine jx_get E f_X4 0 (v := vI ((x 2) 0)) (wx_town (j := 2) (by decide)) (by decide) wf_X4_9 rfl dX4_become_2 ?_
  refine jx_put E f_X4 0 (wx_town (j := 0) (by decide)) (by decide) wf_X4_9 rfl rfl rfl (Nat.le_of_ble_eq_true rfl) (wp_town0 (j := 0) (by decide)) dX4_become_5 ?_
  refine jx_aload_n E 0 dX4_become_8 rfl ?_
  refine jx_aload_n E 1 dX4_become_9 rfl ?_
  refine jx_get E f_X4 1 (v := vI ((x 2) 1)) (wx_town (j := 2) (by decide)) (by decide) wf_X4_15 (by first | rfl | (simp only [setc_at, List.getElem?_cons_zero, List.getElem?_cons_succ]; done) | (simp [setc_at]; done)) dX4_become_10 ?_
  refine jx_put E f_X4 1 (wx_town (j := 0) (by decide)) (by decide) wf_X4_15 rfl rfl rfl (Nat.le_of_ble_eq_true rfl) (wp_town1 (j := 0) (by decide)) dX4_become_13 ?_
  refine jx_eq (ws' := wsX G a (setc x 0 (updI (updI (x 0) 0 ((x 2) 0)) 1 ((x 2) 1)))) (congrArg (wsX G a) (by first | rfl | (rw [setc_setc]; rfl) | exact setc_in _ _ _ _ (by decide) | exact setc_in2 _ _ _ _ _ (by decide) (by decide) | (simp only [setc_setc, setc_at]; done) | (simp only [setc_setc, setc_at]; rfl) | (funext d; simp only [setc_app]; (repeat' split) <;> first | rfl | omega))) ?_
  refine jx_aload_n E 0 dX4_become_16 rfl ?_
  refine jx_aload_n E 1 dX4_become_17 rfl ?_
  refine jx_get E f_X4 2 (v := vI ((x 2) 2)) (wx_town (j := 2) (by decide)) (by decide) wf_X4_18 (by first | rfl | (simp only [setc_at, List.getElem?_cons_zero, List.getElem?_cons_succ]; done) | (simp [setc_at]; done)) dX4_become_18 ?_
  refine jx_put E f_X4 2 (wx_town (j := 0) (by decide)) (by decide) wf_X4_18 rfl rfl rfl (Nat.le_of_ble_eq_true rfl) (wp_town2 (j := 0) (by decide)) dX4_become_21 ?_
  refine jx_eq (ws' := wsX G a (setc x 0 (updI (updI (updI (x 0) 0 ((x 2) 0)) 1 ((x 2) 1)) 2 ((x 2) 2)))) (congrArg (wsX G a) (by first | rfl | (rw [setc_setc]; rfl) | exact setc_in _ _ _ _ (by decide) | exact setc_in2 _ _ _ _ _ (by decide) (by decide) | (simp only [setc_setc, setc_at]; done) | (simp only [setc_setc, setc_at]; rfl) | (funext d; simp only [setc_app]; (repeat' split) <;> first | rfl | omega))) ?_
  refine jx_aload_n E 0 dX4_become_24 rfl ?_
  refine jx_aload_n E 1 dX4_become_25 rfl ?_
  refine jx_get E f_X4 3 (v := vI ((x 2) 3)) (wx_town (j := 2) (by decide)) (by decide) wf_X4_21 (by first | rfl | (simp only [setc_at, List.getElem?_cons_zero, List.getElem?_cons_succ]; done) | (simp [setc_at]; done)) dX4_become_26 ?_
  refine jx_put E f_X4 3 (wx_town (j := 0) (by decide)) (by decide) wf_X4_21 rfl rfl rfl (Nat.le_of_ble_eq_true rfl) (wp_town3 (j := 0) (by decide)) dX4_become_29 ?_
  refine jx_eq (ws' := wsX G a (setc x 0 (updI (updI (updI (updI (x 0) 0 ((x 2) 0)) 1 ((x 2) 1)) 2 ((x 2) 2)) 3 ((x 2) 3)))) (congrArg (wsX G a) (by first | rfl | (rw [setc_setc]; rfl) | exact setc_in _ _ _ _ (by decide) | exact setc_in2 _ _ _ _ _ (by decide) (by decide) | (simp only [setc_setc, setc_at]; done) | (simp only [setc_setc, setc_at]; rfl) | (funext d; simp only [setc_app]; (repeat' split) <;> first | rfl | omega))) ?_
  refine jx_aload_n E 1 dX4_become_32 rfl ?_
  refine jx_get E f_X4 4 (v := .ref (a 26)) (wx_town (j := 2) (by decide)) (by decide) wf_X4_24 rfl dX4_become_33 ?_
  refine jx_iconst E dX4_become_36 ?_
  refine jx_aload_n E 0 dX4_become_37 rfl ?_
  refine jx_get E f_X4 4 (v := .ref (a 2)) (wx_town (j := 0) (by decide)) (by decide) wf_X4_24 rfl dX4_become_38 ?_
  refine jx_iconst E dX4_become_41 ?_
  refine jx_bipush E dX4_become_42 ?_
  refine jx_copyi E wl_X4_41 (wx_rain (j := 2) (by decide)) (wx_rain (j := 0) (by decide)) (wp_rains (j := 0) (by decide) _) (by omega) (by omega) (by omega) (by omega) (by omega) (by decide) (by decide) dX4_become_44 ?_
  refine jx_eq (ws' := wsX G a (setc x 0 (blkP (updI (updI (updI (updI (x 0) 0 ((x 2) 0)) 1 ((x 2) 1)) 2 ((x 2) 2)) 3 ((x 2) 3)) (x 2) 5 13))) (congrArg (wsX G a) (by first | rfl | (rw [setc_setc]; rfl) | exact setc_in _ _ _ _ (by decide) | exact setc_in2 _ _ _ _ _ (by decide) (by decide) | (simp only [setc_setc, setc_at]; done) | (simp only [setc_setc, setc_at]; rfl) | (funext d; simp only [setc_app]; (repeat' split) <;> first | rfl | omega))) ?_
  refine jx_aload_n E 1 dX4_become_47 rfl ?_
  refine jx_get E f_X4 5 (v := .ref (a 27)) (wx_town (j := 2) (by decide)) (by decide) wf_X4_28 rfl dX4_become_48 ?_
  refine jx_iconst E dX4_become_51 ?_
  refine jx_aload_n E 0 dX4_become_52 rfl ?_
  refine jx_get E f_X4 5 (v := .ref (a 3)) (wx_town (j := 0) (by decide)) (by decide) wf_X4_28 rfl dX4_become_53 ?_
  refine jx_iconst E dX4_become_56 ?_
  refine jx_bipush E dX4_become_57 ?_
  refine jx_copyi E wl_X4_41 (wx_cold (j := 2) (by decide)) (wx_cold (j := 0) (by decide)) (wp_colds (j := 0) (by decide) _) (by omega) (by omega) (by omega) (by omega) (by omega) (by decide) (by decide) dX4_become_59 ?_
  refine jx_eq (ws' := wsX G a (setc x 0 (blkP (blkP (updI (updI (updI (updI (x 0) 0 ((x 2) 0)) 1 ((x 2) 1)) 2 ((x 2) 2)) 3 ((x 2) 3)) (x 2) 5 13) (x 2) 13 21))) (congrArg (wsX G a) (by first | rfl | (rw [setc_setc]; rfl) | exact setc_in _ _ _ _ (by decide) | exact setc_in2 _ _ _ _ _ (by decide) (by decide) | (simp only [setc_setc, setc_at]; done) | (simp only [setc_setc, setc_at]; rfl) | (funext d; simp only [setc_app]; (repeat' split) <;> first | rfl | omega))) ?_
  refine jx_aload_n E 0 dX4_become_62 rfl ?_
  refine jx_aload_n E 1 dX4_become_63 rfl ?_
  refine jx_get E f_X4 7 (v := vI ((x 2) 4)) (wx_town (j := 2) (by decide)) (by decide) wf_X4_37 (by first | rfl | (simp only [setc_at, List.getElem?_cons_zero, List.getElem?_cons_succ]; done) | (simp [setc_at]; done)) dX4_become_64 ?_
  refine jx_put E f_X4 7 (wx_town (j := 0) (by decide)) (by decide) wf_X4_37 rfl rfl rfl (Nat.le_of_ble_eq_true rfl) (wp_town7 (j := 0) (by decide)) dX4_become_67 ?_
  refine jx_eq (ws' := wsX G a (setc x 0 (updI (blkP (blkP (updI (updI (updI (updI (x 0) 0 ((x 2) 0)) 1 ((x 2) 1)) 2 ((x 2) 2)) 3 ((x 2) 3)) (x 2) 5 13) (x 2) 13 21) 4 ((x 2) 4)))) (congrArg (wsX G a) (by first | rfl | (rw [setc_setc]; rfl) | exact setc_in _ _ _ _ (by decide) | exact setc_in2 _ _ _ _ _ (by decide) (by decide) | (simp only [setc_setc, setc_at]; done) | (simp only [setc_setc, setc_at]; rfl) | (funext d; simp only [setc_app]; (repeat' split) <;> first | rfl | omega))) ?_
  refine jx_eq (ws' := wsX G a (setc x 0 (hdP (x 0) (x 2) 21))) (congrArg (fun z => wsX G a (setc x 0 z)) (hd_21 (x 0) (x 2))) ?_
  refine jx_iconst E dX4_become_70 ?_
  refine jx_istore_n E dX4_become_71 (by decide) [(2, vI 0), (0, .ref (a 1)), (1, .ref (a 25))] rfl ?_
  have LP72 : ∀ (n2 : Nat) (k : Nat), ((k : Int) ≤ x 2 4) → (x 2 4 - (k : Int) < n2) → JX p l e (rmL 2) s m args below meth c 3 G A 0 0 (QV below args s G A (wsX G a (setc x 0 (hdP (x 0) (x 2) (21 + 5 * (x 2) 4))))) (wsX G a (setc x 0 (hdP (x 0) (x 2) (21 + 5 * (k : Int))))) 72 [(2, vI (k : Int)), (0, .ref (a 1)), (1, .ref (a 25))] [] := by
    intro n2
    induction n2 with
    | zero => intro k q1 q2; exfalso; omega
    | succ n2 ih =>
      intro k q1 q2
      have hq4 : hdP (x 0) (x 2) (21 + 5 * (k : Int)) 4 = x 2 4 := by simp only [hdP]; rw [if_pos (by omega)]
      refine jx_iload_n E 0 dX4_become_72 rfl ?_
      refine jx_aload_n E 1 dX4_become_73 rfl ?_
      refine jx_get E f_X4 7 (v := vI ((hdP (x 0) (x 2) (21 + 5 * (k : Int))) 4)) (wx_town (j := 0) (by decide)) (by decide) wf_X4_37 (by first | rfl | (simp only [setc_at, List.getElem?_cons_zero, List.getElem?_cons_succ]; done) | (simp [setc_at]; done)) dX4_become_74 ?_
      refine jx_icmp_ge (tgt := 101) E dX4_become_77 (by decide) (fun c1 => ?_) (fun c1 => ?_)
      · skip
        exact jx_vret E hr dX4_become_101 (by rw [show (k : Int) = x 2 4 by omega])
      · skip
        refine jx_aload_n E 1 dX4_become_80 rfl ?_
        refine jx_get E f_X4 6 (v := .ref (a 4)) (wx_town (j := 0) (by decide)) (by decide) wf_X4_33 rfl dX4_become_81 ?_
        refine jx_iload_n E 0 dX4_become_84 rfl ?_
        refine jx_aald E 2 (y := a (5 + 12 * 0 + (k : Int).toNat)) (wx_row (j := 0) (by decide)) rfl rfl (by omega) (by omega) (by decide) dX4_become_85 ?_
        refine jx_aload_n E 2 dX4_become_86 rfl ?_
        refine jx_get E f_X4 6 (v := .ref (a 28)) (wx_town (j := 2) (by decide)) (by decide) wf_X4_33 rfl dX4_become_87 ?_
        refine jx_iload_n E 0 dX4_become_90 rfl ?_
        refine jx_aald E 2 (y := a (5 + 12 * 2 + (k : Int).toNat)) (wx_row (j := 2) (by decide)) rfl rfl (by omega) (by omega) (by decide) dX4_become_91 ?_
        refine jx_callVv E [.ref (a (5 + 12 * 2 + (k : Int).toNat))] [] (c_X0_become_02 l G a (setc x 0 (hdP (x 0) (x 2) (21 + 5 * (k : Int)))) (i := (k : Int)) (by omega)) mb_X0_become mv_X0_become wl_X4_47 f_X0 (wx_fou (j := 0) (by decide) (by omega) (by omega)) dX4_become_92 ?_
        refine jx_eq (ws' := wsX G a (setc x 0 (oneP (hdP (x 0) (x 2) (21 + 5 * (k : Int))) (x 2) (k : Int)))) (congrArg (wsX G a) (by first | rfl | (rw [setc_setc]; rfl) | exact setc_in _ _ _ _ (by decide) | exact setc_in2 _ _ _ _ _ (by decide) (by decide) | (simp only [setc_setc, setc_at]; done) | (simp only [setc_setc, setc_at]; rfl) | (funext d; simp only [setc_app]; (repeat' split) <;> first | rfl | omega))) ?_
        refine jx_iinc E 0 dX4_become_95 rfl (by decide) [(2, vI ((k : Int) + 1)), (0, .ref (a 1)), (1, .ref (a 25))] rfl ?_
        refine jx_goto (tgt := 72) E dX4_become_98 (by decide) ?_
        rw [hd_one]
        exact ih (k + 1) (by omega) (by omega)
  exact LP72 9 0 (by omega) (by omega)
set_option maxHeartbeats 4000000 in
theorem c_X4_has_0 (l : Launch) (G : GT) (a : Nat → Nat) (x : MS) {f : Int} (h1 : inR f) (h2 : 0 ≤ x 0 4 ∧ x 0 4 ≤ 8) : CtI l G yX4_has cX4_has 2 (some .boolean) 1 [.ref (a 1), vI f] (wsX G a x) (if vFou (x 0) f then 1 else 0) (wsX G a x) := by
  unfold inR at h1
  refine CtI.of (by decide) (Nat.le_of_ble_eq_true rfl) ?_
  intro p e s m args below meth c A E hr
  refine jx_lv (lv' := [(0, .ref (a 1)), (1, vI f)]) [0, 1] rfl ?_
  refine jx_iload_n E 1 dX4_has_0 rfl ?_
  refine jx_if_lt (tgt := 16) E dX4_has_1 (by decide) (fun c1 => ?_) (fun c1 => ?_)
  · skip
    refine jx_iconst E dX4_has_16 ?_
    exact jx_zret E hr dX4_has_17 (by omega) (by first | rfl | (congr 1; done)) (by first | exact Or.inl rfl | exact Or.inr rfl | omega)
  · skip
    refine jx_iload_n E 1 dX4_has_4 rfl ?_
    refine jx_aload_n E 0 dX4_has_5 rfl ?_
    refine jx_get E f_X4 7 (v := vI ((x 0) 4)) (wx_town (j := 0) (by decide)) (by decide) wf_X4_37 rfl dX4_has_6 ?_
    refine jx_icmp_ge (tgt := 16) E dX4_has_9 (by decide) (fun c2 => ?_) (fun c2 => ?_)
    · skip
      refine jx_iconst E dX4_has_16 ?_
      exact jx_zret E hr dX4_has_17 (by omega) (by first | rfl | (congr 1; done)) (by first | exact Or.inl rfl | exact Or.inr rfl | omega)
    · skip
      refine jx_iconst E dX4_has_12 ?_
      refine jx_goto (tgt := 17) E dX4_has_13 (by decide) ?_
      exact jx_zret E hr dX4_has_17 (by omega) (by first | rfl | (congr 1; done)) (by first | exact Or.inl rfl | exact Or.inr rfl | omega)
set_option maxHeartbeats 4000000 in
theorem c_X4_has_1 (l : Launch) (G : GT) (a : Nat → Nat) (x : MS) {f : Int} (h1 : inR f) (h2 : 0 ≤ x 1 4 ∧ x 1 4 ≤ 8) : CtI l G yX4_has cX4_has 2 (some .boolean) 1 [.ref (a 13), vI f] (wsX G a x) (if vFou (x 1) f then 1 else 0) (wsX G a x) := by
  unfold inR at h1
  refine CtI.of (by decide) (Nat.le_of_ble_eq_true rfl) ?_
  intro p e s m args below meth c A E hr
  refine jx_lv (lv' := [(0, .ref (a 13)), (1, vI f)]) [0, 1] rfl ?_
  refine jx_iload_n E 1 dX4_has_0 rfl ?_
  refine jx_if_lt (tgt := 16) E dX4_has_1 (by decide) (fun c1 => ?_) (fun c1 => ?_)
  · skip
    refine jx_iconst E dX4_has_16 ?_
    exact jx_zret E hr dX4_has_17 (by omega) (by first | rfl | (congr 1; done)) (by first | exact Or.inl rfl | exact Or.inr rfl | omega)
  · skip
    refine jx_iload_n E 1 dX4_has_4 rfl ?_
    refine jx_aload_n E 0 dX4_has_5 rfl ?_
    refine jx_get E f_X4 7 (v := vI ((x 1) 4)) (wx_town (j := 1) (by decide)) (by decide) wf_X4_37 rfl dX4_has_6 ?_
    refine jx_icmp_ge (tgt := 16) E dX4_has_9 (by decide) (fun c2 => ?_) (fun c2 => ?_)
    · skip
      refine jx_iconst E dX4_has_16 ?_
      exact jx_zret E hr dX4_has_17 (by omega) (by first | rfl | (congr 1; done)) (by first | exact Or.inl rfl | exact Or.inr rfl | omega)
    · skip
      refine jx_iconst E dX4_has_12 ?_
      refine jx_goto (tgt := 17) E dX4_has_13 (by decide) ?_
      exact jx_zret E hr dX4_has_17 (by omega) (by first | rfl | (congr 1; done)) (by first | exact Or.inl rfl | exact Or.inr rfl | omega)
set_option maxHeartbeats 4000000 in
theorem c_X4_weekOfDay_0 (l : Launch) (G : GT) (a : Nat → Nat) (x : MS) (h1 : 0 ≤ x 0 0 ∧ x 0 0 ≤ 2000000) : CtI l G yX4_weekOfDay cX4_weekOfDay 1 (some .int) 2 [.ref (a 1)] (wsX G a x) (weekP (x 0)) (wsX G a x) := by
  refine CtI.of (by decide) (Nat.le_of_ble_eq_true rfl) ?_
  intro p e s m args below meth c A E hr
  refine jx_lv (lv' := [(0, .ref (a 1))]) [0] rfl ?_
  refine jx_aload_n E 0 dX4_weekOfDay_0 rfl ?_
  refine jx_get E f_X4 0 (v := vI ((x 0) 0)) (wx_town (j := 0) (by decide)) (by decide) wf_X4_9 rfl dX4_weekOfDay_1 ?_
  refine jx_bipush E dX4_weekOfDay_4 ?_
  refine jx_idivp E dX4_weekOfDay_6 ?_
  refine jx_bipush E dX4_weekOfDay_7 ?_
  refine jx_callSi E [vI (((x 0) 0) / 7), vI 8] [] (c_J9_floorMod_7cf53 l G (wsX G a x) (u := ((x 0) 0) / 7) (w := 8) (by omega) rfl) mb_J9_floorMod_7cf53 ms_J9_floorMod_7cf53 wl_X4_55 dX4_weekOfDay_9 ?_
  exact jx_iret E hr dX4_weekOfDay_12 rfl (by first | rfl | (congr 1; done))
set_option maxHeartbeats 4000000 in
theorem c_X4_weekOfDay_1 (l : Launch) (G : GT) (a : Nat → Nat) (x : MS) (h1 : 0 ≤ x 1 0 ∧ x 1 0 ≤ 2000000) : CtI l G yX4_weekOfDay cX4_weekOfDay 1 (some .int) 2 [.ref (a 13)] (wsX G a x) (weekP (x 1)) (wsX G a x) := by
  refine CtI.of (by decide) (Nat.le_of_ble_eq_true rfl) ?_
  intro p e s m args below meth c A E hr
  refine jx_lv (lv' := [(0, .ref (a 13))]) [0] rfl ?_
  refine jx_aload_n E 0 dX4_weekOfDay_0 rfl ?_
  refine jx_get E f_X4 0 (v := vI ((x 1) 0)) (wx_town (j := 1) (by decide)) (by decide) wf_X4_9 rfl dX4_weekOfDay_1 ?_
  refine jx_bipush E dX4_weekOfDay_4 ?_
  refine jx_idivp E dX4_weekOfDay_6 ?_
  refine jx_bipush E dX4_weekOfDay_7 ?_
  refine jx_callSi E [vI (((x 1) 0) / 7), vI 8] [] (c_J9_floorMod_7cf53 l G (wsX G a x) (u := ((x 1) 0) / 7) (w := 8) (by omega) rfl) mb_J9_floorMod_7cf53 ms_J9_floorMod_7cf53 wl_X4_55 dX4_weekOfDay_9 ?_
  exact jx_iret E hr dX4_weekOfDay_12 rfl (by first | rfl | (congr 1; done))
set_option maxHeartbeats 4000000 in
theorem c_X4_isCold_0 (l : Launch) (G : GT) (a : Nat → Nat) (x : MS) (h1 : 0 ≤ x 0 0 ∧ x 0 0 ≤ 2000000) (h2 : 0 ≤ x 0 (13 + weekP (x 0)) ∧ x 0 (13 + weekP (x 0)) ≤ 1) : CtI l G yX4_isCold cX4_isCold 1 (some .boolean) 3 [.ref (a 1)] (wsX G a x) (coldP (x 0)) (wsX G a x) := by
  have hw : 0 ≤ weekP (x 0) ∧ weekP (x 0) < 8 := by unfold weekP; omega
  refine CtI.of (by decide) (Nat.le_of_ble_eq_true rfl) ?_
  intro p e s m args below meth c A E hr
  refine jx_lv (lv' := [(0, .ref (a 1))]) [0] rfl ?_
  refine jx_aload_n E 0 dX4_isCold_0 rfl ?_
  refine jx_get E f_X4 5 (v := .ref (a 3)) (wx_town (j := 0) (by decide)) (by decide) wf_X4_28 rfl dX4_isCold_1 ?_
  refine jx_aload_n E 0 dX4_isCold_4 rfl ?_
  refine jx_callVi E [] [.ref (a 3)] (c_X4_weekOfDay_0 l G a x  (by omega)) mb_X4_weekOfDay mv_X4_weekOfDay wl_X4_61 f_X4 (wx_town (j := 0) (by decide)) dX4_isCold_5 ?_
  refine jx_iald E (v := (x 0) (13 + (weekP (x 0)))) (wx_cold (j := 0) (by decide)) (rowI_at (by omega) (by omega)) (by omega) (by omega) (by decide) dX4_isCold_8 ?_
  refine jx_iconst E dX4_isCold_9 ?_
  refine jx_icmp_ne (tgt := 17) E dX4_isCold_10 (by decide) (fun c1 => ?_) (fun c1 => ?_)
  · skip
    refine jx_iconst E dX4_isCold_17 ?_
    exact jx_zret E hr dX4_isCold_18 (by simp only [coldP]; omega) (by first | rfl | (congr 1; done)) (by first | exact Or.inl rfl | exact Or.inr rfl | omega)
  · skip
    refine jx_iconst E dX4_isCold_13 ?_
    refine jx_goto (tgt := 18) E dX4_isCold_14 (by decide) ?_
    exact jx_zret E hr dX4_isCold_18 (by simp only [coldP]; omega) (by first | rfl | (congr 1; done)) (by first | exact Or.inl rfl | exact Or.inr rfl | omega)
set_option maxHeartbeats 4000000 in
theorem c_X4_isCold_1 (l : Launch) (G : GT) (a : Nat → Nat) (x : MS) (h1 : 0 ≤ x 1 0 ∧ x 1 0 ≤ 2000000) (h2 : 0 ≤ x 1 (13 + weekP (x 1)) ∧ x 1 (13 + weekP (x 1)) ≤ 1) : CtI l G yX4_isCold cX4_isCold 1 (some .boolean) 3 [.ref (a 13)] (wsX G a x) (coldP (x 1)) (wsX G a x) := by
  have hw : 0 ≤ weekP (x 1) ∧ weekP (x 1) < 8 := by unfold weekP; omega
  refine CtI.of (by decide) (Nat.le_of_ble_eq_true rfl) ?_
  intro p e s m args below meth c A E hr
  refine jx_lv (lv' := [(0, .ref (a 13))]) [0] rfl ?_
  refine jx_aload_n E 0 dX4_isCold_0 rfl ?_
  refine jx_get E f_X4 5 (v := .ref (a 15)) (wx_town (j := 1) (by decide)) (by decide) wf_X4_28 rfl dX4_isCold_1 ?_
  refine jx_aload_n E 0 dX4_isCold_4 rfl ?_
  refine jx_callVi E [] [.ref (a 15)] (c_X4_weekOfDay_1 l G a x  (by omega)) mb_X4_weekOfDay mv_X4_weekOfDay wl_X4_61 f_X4 (wx_town (j := 1) (by decide)) dX4_isCold_5 ?_
  refine jx_iald E (v := (x 1) (13 + (weekP (x 1)))) (wx_cold (j := 1) (by decide)) (rowI_at (by omega) (by omega)) (by omega) (by omega) (by decide) dX4_isCold_8 ?_
  refine jx_iconst E dX4_isCold_9 ?_
  refine jx_icmp_ne (tgt := 17) E dX4_isCold_10 (by decide) (fun c1 => ?_) (fun c1 => ?_)
  · skip
    refine jx_iconst E dX4_isCold_17 ?_
    exact jx_zret E hr dX4_isCold_18 (by simp only [coldP]; omega) (by first | rfl | (congr 1; done)) (by first | exact Or.inl rfl | exact Or.inr rfl | omega)
  · skip
    refine jx_iconst E dX4_isCold_13 ?_
    refine jx_goto (tgt := 18) E dX4_isCold_14 (by decide) ?_
    exact jx_zret E hr dX4_isCold_18 (by simp only [coldP]; omega) (by first | rfl | (congr 1; done)) (by first | exact Or.inl rfl | exact Or.inr rfl | omega)
