/-! the constructor of the class -/
set_option maxHeartbeats 4000000 in
set_option maxRecDepth 20000 in
theorem c_X5_init (l : Launch) (G : GT) (o : Nat) : CtN l G yX5_init cX5_init 1 3 49 527 [.ref o] [(o, .inr (5, [.null, .null, .null, vI 0, .null, .null, .null, .null]))] (fun w => ∃ a : Nat → Nat, a 0 = o ∧ w = wsX G a iniX) := by
  refine CtN.of (by decide) (Nat.le_of_ble_eq_true rfl) rfl ?_
  intro p e s m args below meth c A E hr hin hN
  refine jx_lv (lv' := [(0, .ref o)]) [0] rfl ?_
  refine jx_aload_n E 0 dX5_init_0 rfl ?_
  refine jx_oinit E wl_X5_1 dX5_init_1 ?_
  refine jx_aload_n E 0 dX5_init_4 rfl ?_
  refine jx_new E f_X4 wk_X5_7 wi_X4 wz_X4 (fs := [vI 0, vI 0, vI 0, vI 0, .null, .null, .null, vI 0]) (fun j hj => by rcases (show j = 0 ∨ j = 1 ∨ j = 2 ∨ j = 3 ∨ j = 4 ∨ j = 5 ∨ j = 6 ∨ j = 7 by omega) with rfl | rfl | rfl | rfl | rfl | rfl | rfl | rfl <;> rfl) dX5_init_5 (fun q1 => ?_)
  refine jx_dup E dX5_init_8 ?_
  refine jx_ctor E hN [] [.ref q1, .ref o] (c_X4_init l G q1) mb_X4_init mi_X4_init rfl wl_X5_9 dX5_init_9 (fun w2 h3 => ?_)
  obtain ⟨a1, e1, rfl⟩ := h3
  refine jx_putF E hin f_X5 0 (q0 := 0) rfl (by decide) wf_X5_10 rfl rfl rfl (Nat.le_of_ble_eq_true rfl) (ws' := ([(o, .inr (5, [.ref q1, .null, .null, vI 0, .null, .null, .null, .null]))] ++ wsT G a1 1 iniT)) rfl dX5_init_12 ?_
  refine jx_aload_n E 0 dX5_init_15 rfl ?_
  refine jx_new E f_X4 wk_X5_7 wi_X4 wz_X4 (fs := [vI 0, vI 0, vI 0, vI 0, .null, .null, .null, vI 0]) (fun j hj => by rcases (show j = 0 ∨ j = 1 ∨ j = 2 ∨ j = 3 ∨ j = 4 ∨ j = 5 ∨ j = 6 ∨ j = 7 by omega) with rfl | rfl | rfl | rfl | rfl | rfl | rfl | rfl <;> rfl) dX5_init_16 (fun q4 => ?_)
  refine jx_dup E dX5_init_19 ?_
  refine jx_ctor E hN [] [.ref q4, .ref o] (c_X4_init l G q4) mb_X4_init mi_X4_init rfl wl_X5_9 dX5_init_20 (fun w5 h6 => ?_)
  obtain ⟨a2, e2, rfl⟩ := h6
  refine jx_putF E hin f_X5 1 (q0 := 0) rfl (by decide) wf_X5_16 rfl rfl rfl (Nat.le_of_ble_eq_true rfl) (ws' := (([(o, .inr (5, [.ref q1, .ref q4, .null, vI 0, .null, .null, .null, .null]))] ++ wsT G a1 1 iniT) ++ wsT G a2 1 iniT)) rfl dX5_init_23 ?_
  refine jx_aload_n E 0 dX5_init_26 rfl ?_
  refine jx_new E f_X4 wk_X5_7 wi_X4 wz_X4 (fs := [vI 0, vI 0, vI 0, vI 0, .null, .null, .null, vI 0]) (fun j hj => by rcases (show j = 0 ∨ j = 1 ∨ j = 2 ∨ j = 3 ∨ j = 4 ∨ j = 5 ∨ j = 6 ∨ j = 7 by omega) with rfl | rfl | rfl | rfl | rfl | rfl | rfl | rfl <;> rfl) dX5_init_27 (fun q7 => ?_)
  refine jx_dup E dX5_init_30 ?_
  refine jx_ctor E hN [] [.ref q7, .ref o] (c_X4_init l G q7) mb_X4_init mi_X4_init rfl wl_X5_9 dX5_init_31 (fun w8 h9 => ?_)
  obtain ⟨a3, e3, rfl⟩ := h9
  refine jx_putF E hin f_X5 2 (q0 := 0) rfl (by decide) wf_X5_19 rfl rfl rfl (Nat.le_of_ble_eq_true rfl) (ws' := ((([(o, .inr (5, [.ref q1, .ref q4, .ref q7, vI 0, .null, .null, .null, .null]))] ++ wsT G a1 1 iniT) ++ wsT G a2 1 iniT) ++ wsT G a3 1 iniT)) rfl dX5_init_34 ?_
  refine jx_aload_n E 0 dX5_init_37 rfl ?_
  refine jx_iconst E dX5_init_38 ?_
  refine jx_put E f_X5 3 (q0 := 0) rfl (by decide) wf_X5_22 rfl rfl rfl (Nat.le_of_ble_eq_true rfl) (ws' := ((([(o, .inr (5, [.ref q1, .ref q4, .ref q7, vI 0, .null, .null, .null, .null]))] ++ wsT G a1 1 iniT) ++ wsT G a2 1 iniT) ++ wsT G a3 1 iniT)) rfl dX5_init_39 ?_
  refine jx_aload_n E 0 dX5_init_42 rfl ?_
  refine jx_new E f_X2 wk_X5_26 wi_X2 wz_X2 (fs := [.null, vI 0]) (fun j hj => by rcases (show j = 0 ∨ j = 1 by omega) with rfl | rfl <;> rfl) dX5_init_43 (fun q10 => ?_)
  refine jx_dup E dX5_init_46 ?_
  refine jx_ctorN E hN [] [.ref q10, .ref o] (c_X2_init l G q10) mb_X2_init mi_X2_init rfl hN.2.1 dX5_init_47 (fun w11 h12 => ?_)
  obtain ⟨tb, rfl⟩ := h12
  refine jx_putF E hin f_X5 4 (q0 := 0) rfl (by decide) wf_X5_29 rfl rfl rfl (Nat.le_of_ble_eq_true rfl) (ws' := (((([(o, .inr (5, [.ref q1, .ref q4, .ref q7, vI 0, .ref q10, .null, .null, .null]))] ++ wsT G a1 1 iniT) ++ wsT G a2 1 iniT) ++ wsT G a3 1 iniT) ++ [(q10, .inr (2, [.ref tb, vI 0])), (tb, .inl (G.2.1 0, 120, .inl (fun _ => 0)))])) rfl dX5_init_50 ?_
  refine jx_aload_n E 0 dX5_init_53 rfl ?_
  refine jx_new E f_X3 wk_X5_33 wi_X3 wz_X3 (fs := [.null, vI 0, vI 0, vI 0, vI 0, vI 0]) (fun j hj => by rcases (show j = 0 ∨ j = 1 ∨ j = 2 ∨ j = 3 ∨ j = 4 ∨ j = 5 by omega) with rfl | rfl | rfl | rfl | rfl | rfl <;> rfl) dX5_init_54 (fun q13 => ?_)
  refine jx_dup E dX5_init_57 ?_
  refine jx_aload_n E 0 dX5_init_58 rfl ?_
  refine jx_get E f_X5 4 (v := .ref q10) (q0 := 0) rfl (by decide) wf_X5_29 rfl dX5_init_59 ?_
  refine jx_ctor E hN [.ref q10] [.ref q13, .ref o] (c_X3_init l G q13 q10) mb_X3_init mi_X3_init rfl wl_X5_35 dX5_init_62 (fun w14 h15 => ?_)
  subst h15
  refine jx_putF E hin f_X5 5 (q0 := 0) rfl (by decide) wf_X5_38 rfl rfl rfl (Nat.le_of_ble_eq_true rfl) (ws' := ((((([(o, .inr (5, [.ref q1, .ref q4, .ref q7, vI 0, .ref q10, .ref q13, .null, .null]))] ++ wsT G a1 1 iniT) ++ wsT G a2 1 iniT) ++ wsT G a3 1 iniT) ++ [(q10, .inr (2, [.ref tb, vI 0])), (tb, .inl (G.2.1 0, 120, .inl (fun _ => 0)))]) ++ [(q13, .inr (3, [.ref q10, vI 3, vI 0, vI 0, vI 0, vI 0]))])) rfl dX5_init_65 ?_
  refine jx_aload_n E 0 dX5_init_68 rfl ?_
  refine jx_iconst E dX5_init_69 ?_
  refine jx_newq E 3 4 rfl wk_X5_42 hN.2.2.2.2 rfl (by decide) dX5_init_70 (fun q16 => ?_)
  refine jx_dup E dX5_init_73 ?_
  refine jx_iconst E dX5_init_74 ?_
  refine jx_new E f_X1 wk_X5_42 wi_X1 wz_X1 (fs := [vI 0, vI 0, .null]) (fun j hj => by rcases (show j = 0 ∨ j = 1 ∨ j = 2 by omega) with rfl | rfl | rfl <;> rfl) dX5_init_75 (fun q17 => ?_)
  refine jx_dup E dX5_init_78 ?_
  refine jx_ctorN E hN [] [.ref q17, vI 0, .ref q16, .ref q16, .ref o] (c_X1_init l G q17) mb_X1_init mi_X1_init rfl hN.2.2.1 dX5_init_79 (fun w18 h19 => ?_)
  obtain ⟨sn1, rfl⟩ := h19
  refine jx_aast E 40 3 41 1 rfl rfl rfl rfl (ws' := ((((((([(o, .inr (5, [.ref q1, .ref q4, .ref q7, vI 0, .ref q10, .ref q13, .null, .null]))] ++ wsT G a1 1 iniT) ++ wsT G a2 1 iniT) ++ wsT G a3 1 iniT) ++ [(q10, .inr (2, [.ref tb, vI 0])), (tb, .inl (G.2.1 0, 120, .inl (fun _ => 0)))]) ++ [(q13, .inr (3, [.ref q10, vI 3, vI 0, vI 0, vI 0, vI 0]))]) ++ [(q16, .inl (G.2.1 3, 4, .inr (.inr (.inr (.inr (va_up (fun _ => none) 0 (some q17)))))))]) ++ [(q17, .inr (1, [vI 0, vI 0, .ref sn1])), (sn1, .inl (G.2.1 1, 40, .inr (.inl (fun _ => 0))))])) rfl (by decide) (by decide) (by decide) dX5_init_82 ?_
  refine jx_dup E dX5_init_83 ?_
  refine jx_iconst E dX5_init_84 ?_
  refine jx_new E f_X1 wk_X5_42 wi_X1 wz_X1 (fs := [vI 0, vI 0, .null]) (fun j hj => by rcases (show j = 0 ∨ j = 1 ∨ j = 2 by omega) with rfl | rfl | rfl <;> rfl) dX5_init_85 (fun q20 => ?_)
  refine jx_dup E dX5_init_88 ?_
  refine jx_ctorN E hN [] [.ref q20, vI 1, .ref q16, .ref q16, .ref o] (c_X1_init l G q20) mb_X1_init mi_X1_init rfl hN.2.2.1 dX5_init_89 (fun w21 h22 => ?_)
  obtain ⟨sn2, rfl⟩ := h22
  refine jx_aast E 40 3 43 1 rfl rfl rfl rfl (ws' := (((((((([(o, .inr (5, [.ref q1, .ref q4, .ref q7, vI 0, .ref q10, .ref q13, .null, .null]))] ++ wsT G a1 1 iniT) ++ wsT G a2 1 iniT) ++ wsT G a3 1 iniT) ++ [(q10, .inr (2, [.ref tb, vI 0])), (tb, .inl (G.2.1 0, 120, .inl (fun _ => 0)))]) ++ [(q13, .inr (3, [.ref q10, vI 3, vI 0, vI 0, vI 0, vI 0]))]) ++ [(q16, .inl (G.2.1 3, 4, .inr (.inr (.inr (.inr (va_up (va_up (fun _ => none) 0 (some q17)) 1 (some q20)))))))]) ++ [(q17, .inr (1, [vI 0, vI 0, .ref sn1])), (sn1, .inl (G.2.1 1, 40, .inr (.inl (fun _ => 0))))]) ++ [(q20, .inr (1, [vI 0, vI 0, .ref sn2])), (sn2, .inl (G.2.1 1, 40, .inr (.inl (fun _ => 0))))])) rfl (by decide) (by decide) (by decide) dX5_init_92 ?_
  refine jx_dup E dX5_init_93 ?_
  refine jx_iconst E dX5_init_94 ?_
  refine jx_new E f_X1 wk_X5_42 wi_X1 wz_X1 (fs := [vI 0, vI 0, .null]) (fun j hj => by rcases (show j = 0 ∨ j = 1 ∨ j = 2 by omega) with rfl | rfl | rfl <;> rfl) dX5_init_95 (fun q23 => ?_)
  refine jx_dup E dX5_init_98 ?_
  refine jx_ctorN E hN [] [.ref q23, vI 2, .ref q16, .ref q16, .ref o] (c_X1_init l G q23) mb_X1_init mi_X1_init rfl hN.2.2.1 dX5_init_99 (fun w24 h25 => ?_)
  obtain ⟨sn3, rfl⟩ := h25
  refine jx_aast E 40 3 45 1 rfl rfl rfl rfl (ws' := ((((((((([(o, .inr (5, [.ref q1, .ref q4, .ref q7, vI 0, .ref q10, .ref q13, .null, .null]))] ++ wsT G a1 1 iniT) ++ wsT G a2 1 iniT) ++ wsT G a3 1 iniT) ++ [(q10, .inr (2, [.ref tb, vI 0])), (tb, .inl (G.2.1 0, 120, .inl (fun _ => 0)))]) ++ [(q13, .inr (3, [.ref q10, vI 3, vI 0, vI 0, vI 0, vI 0]))]) ++ [(q16, .inl (G.2.1 3, 4, .inr (.inr (.inr (.inr (va_up (va_up (va_up (fun _ => none) 0 (some q17)) 1 (some q20)) 2 (some q23)))))))]) ++ [(q17, .inr (1, [vI 0, vI 0, .ref sn1])), (sn1, .inl (G.2.1 1, 40, .inr (.inl (fun _ => 0))))]) ++ [(q20, .inr (1, [vI 0, vI 0, .ref sn2])), (sn2, .inl (G.2.1 1, 40, .inr (.inl (fun _ => 0))))]) ++ [(q23, .inr (1, [vI 0, vI 0, .ref sn3])), (sn3, .inl (G.2.1 1, 40, .inr (.inl (fun _ => 0))))])) rfl (by decide) (by decide) (by decide) dX5_init_102 ?_
  refine jx_dup E dX5_init_103 ?_
  refine jx_iconst E dX5_init_104 ?_
  refine jx_new E f_X1 wk_X5_42 wi_X1 wz_X1 (fs := [vI 0, vI 0, .null]) (fun j hj => by rcases (show j = 0 ∨ j = 1 ∨ j = 2 by omega) with rfl | rfl | rfl <;> rfl) dX5_init_105 (fun q26 => ?_)
  refine jx_dup E dX5_init_108 ?_
  refine jx_ctorN E hN [] [.ref q26, vI 3, .ref q16, .ref q16, .ref o] (c_X1_init l G q26) mb_X1_init mi_X1_init rfl hN.2.2.1 dX5_init_109 (fun w27 h28 => ?_)
  obtain ⟨sn4, rfl⟩ := h28
  refine jx_aast E 40 3 47 1 rfl rfl rfl rfl (ws' := (((((((((([(o, .inr (5, [.ref q1, .ref q4, .ref q7, vI 0, .ref q10, .ref q13, .null, .null]))] ++ wsT G a1 1 iniT) ++ wsT G a2 1 iniT) ++ wsT G a3 1 iniT) ++ [(q10, .inr (2, [.ref tb, vI 0])), (tb, .inl (G.2.1 0, 120, .inl (fun _ => 0)))]) ++ [(q13, .inr (3, [.ref q10, vI 3, vI 0, vI 0, vI 0, vI 0]))]) ++ [(q16, .inl (G.2.1 3, 4, .inr (.inr (.inr (.inr (va_up (va_up (va_up (va_up (fun _ => none) 0 (some q17)) 1 (some q20)) 2 (some q23)) 3 (some q26)))))))]) ++ [(q17, .inr (1, [vI 0, vI 0, .ref sn1])), (sn1, .inl (G.2.1 1, 40, .inr (.inl (fun _ => 0))))]) ++ [(q20, .inr (1, [vI 0, vI 0, .ref sn2])), (sn2, .inl (G.2.1 1, 40, .inr (.inl (fun _ => 0))))]) ++ [(q23, .inr (1, [vI 0, vI 0, .ref sn3])), (sn3, .inl (G.2.1 1, 40, .inr (.inl (fun _ => 0))))]) ++ [(q26, .inr (1, [vI 0, vI 0, .ref sn4])), (sn4, .inl (G.2.1 1, 40, .inr (.inl (fun _ => 0))))])) rfl (by decide) (by decide) (by decide) dX5_init_112 ?_
  refine jx_putF E hin f_X5 6 (q0 := 0) rfl (by decide) wf_X5_45 rfl rfl rfl (Nat.le_of_ble_eq_true rfl) (ws' := (((((((((([(o, .inr (5, [.ref q1, .ref q4, .ref q7, vI 0, .ref q10, .ref q13, .ref q16, .null]))] ++ wsT G a1 1 iniT) ++ wsT G a2 1 iniT) ++ wsT G a3 1 iniT) ++ [(q10, .inr (2, [.ref tb, vI 0])), (tb, .inl (G.2.1 0, 120, .inl (fun _ => 0)))]) ++ [(q13, .inr (3, [.ref q10, vI 3, vI 0, vI 0, vI 0, vI 0]))]) ++ [(q16, .inl (G.2.1 3, 4, .inr (.inr (.inr (.inr (va_up (va_up (va_up (va_up (fun _ => none) 0 (some q17)) 1 (some q20)) 2 (some q23)) 3 (some q26)))))))]) ++ [(q17, .inr (1, [vI 0, vI 0, .ref sn1])), (sn1, .inl (G.2.1 1, 40, .inr (.inl (fun _ => 0))))]) ++ [(q20, .inr (1, [vI 0, vI 0, .ref sn2])), (sn2, .inl (G.2.1 1, 40, .inr (.inl (fun _ => 0))))]) ++ [(q23, .inr (1, [vI 0, vI 0, .ref sn3])), (sn3, .inl (G.2.1 1, 40, .inr (.inl (fun _ => 0))))]) ++ [(q26, .inr (1, [vI 0, vI 0, .ref sn4])), (sn4, .inl (G.2.1 1, 40, .inr (.inl (fun _ => 0))))])) rfl dX5_init_113 ?_
  refine jx_aload_n E 0 dX5_init_116 rfl ?_
  refine jx_bipush E dX5_init_117 ?_
  refine jx_newi E 7 rfl (by decide) dX5_init_119 (fun q29 => ?_)
  refine jx_putF E hin f_X5 7 (q0 := 0) rfl (by decide) wf_X5_49 rfl rfl rfl (Nat.le_of_ble_eq_true rfl) (ws' := ((((((((((([(o, .inr (5, [.ref q1, .ref q4, .ref q7, vI 0, .ref q10, .ref q13, .ref q16, .ref q29]))] ++ wsT G a1 1 iniT) ++ wsT G a2 1 iniT) ++ wsT G a3 1 iniT) ++ [(q10, .inr (2, [.ref tb, vI 0])), (tb, .inl (G.2.1 0, 120, .inl (fun _ => 0)))]) ++ [(q13, .inr (3, [.ref q10, vI 3, vI 0, vI 0, vI 0, vI 0]))]) ++ [(q16, .inl (G.2.1 3, 4, .inr (.inr (.inr (.inr (va_up (va_up (va_up (va_up (fun _ => none) 0 (some q17)) 1 (some q20)) 2 (some q23)) 3 (some q26)))))))]) ++ [(q17, .inr (1, [vI 0, vI 0, .ref sn1])), (sn1, .inl (G.2.1 1, 40, .inr (.inl (fun _ => 0))))]) ++ [(q20, .inr (1, [vI 0, vI 0, .ref sn2])), (sn2, .inl (G.2.1 1, 40, .inr (.inl (fun _ => 0))))]) ++ [(q23, .inr (1, [vI 0, vI 0, .ref sn3])), (sn3, .inl (G.2.1 1, 40, .inr (.inl (fun _ => 0))))]) ++ [(q26, .inr (1, [vI 0, vI 0, .ref sn4])), (sn4, .inl (G.2.1 1, 40, .inr (.inl (fun _ => 0))))]) ++ [(q29, .inl (G.2.1 0, 7, .inl (fun _ => 0)))])) rfl dX5_init_121 ?_
  refine jx_eq (ws' := (o, .inr (5, [.ref q1, .ref q4, .ref q7, vI 0, .ref q10, .ref q13, .ref q16, .ref q29])) :: (wsT G a1 1 iniT ++ (wsT G a2 1 iniT ++ (wsT G a3 1 iniT ++ [(q10, .inr (2, [.ref tb, vI 0])), (tb, .inl (G.2.1 0, 120, .inl (fun _ => 0))), (q13, .inr (3, [.ref q10, vI 3, vI 0, vI 0, vI 0, vI 0])), (q16, .inl (G.2.1 3, 4, .inr (.inr (.inr (.inr (va_up (va_up (va_up (va_up (fun _ => none) 0 (some q17)) 1 (some q20)) 2 (some q23)) 3 (some q26))))))), (q17, .inr (1, [vI 0, vI 0, .ref sn1])), (sn1, .inl (G.2.1 1, 40, .inr (.inl (fun _ => 0)))), (q20, .inr (1, [vI 0, vI 0, .ref sn2])), (sn2, .inl (G.2.1 1, 40, .inr (.inl (fun _ => 0)))), (q23, .inr (1, [vI 0, vI 0, .ref sn3])), (sn3, .inl (G.2.1 1, 40, .inr (.inl (fun _ => 0)))), (q26, .inr (1, [vI 0, vI 0, .ref sn4])), (sn4, .inl (G.2.1 1, 40, .inr (.inl (fun _ => 0)))), (q29, .inl (G.2.1 0, 7, .inl (fun _ => 0)))])))) rfl ?_
  have hsm : sameW ((o, .inr (5, [.ref q1, .ref q4, .ref q7, vI 0, .ref q10, .ref q13, .ref q16, .ref q29])) :: (wsT G a1 1 iniT ++ (wsT G a2 1 iniT ++ (wsT G a3 1 iniT ++ [(q10, .inr (2, [.ref tb, vI 0])), (tb, .inl (G.2.1 0, 120, .inl (fun _ => 0))), (q13, .inr (3, [.ref q10, vI 3, vI 0, vI 0, vI 0, vI 0])), (q16, .inl (G.2.1 3, 4, .inr (.inr (.inr (.inr (va_up (va_up (va_up (va_up (fun _ => none) 0 (some q17)) 1 (some q20)) 2 (some q23)) 3 (some q26))))))), (q17, .inr (1, [vI 0, vI 0, .ref sn1])), (sn1, .inl (G.2.1 1, 40, .inr (.inl (fun _ => 0)))), (q20, .inr (1, [vI 0, vI 0, .ref sn2])), (sn2, .inl (G.2.1 1, 40, .inr (.inl (fun _ => 0)))), (q23, .inr (1, [vI 0, vI 0, .ref sn3])), (sn3, .inl (G.2.1 1, 40, .inr (.inl (fun _ => 0)))), (q26, .inr (1, [vI 0, vI 0, .ref sn4])), (sn4, .inl (G.2.1 1, 40, .inr (.inl (fun _ => 0)))), (q29, .inl (G.2.1 0, 7, .inl (fun _ => 0)))])))) (wsX G (adr [o, a1 1, a1 2, a1 3, a1 4, a1 5, a1 6, a1 7, a1 8, a1 9, a1 10, a1 11, a1 12, a2 1, a2 2, a2 3, a2 4, a2 5, a2 6, a2 7, a2 8, a2 9, a2 10, a2 11, a2 12, a3 1, a3 2, a3 3, a3 4, a3 5, a3 6, a3 7, a3 8, a3 9, a3 10, a3 11, a3 12, q10, tb, q13, q16, q17, sn1, q20, sn2, q23, sn3, q26, sn4, q29]) iniX) := by
    rw [← e1, ← e2, ← e3]
    refine sameW.cons sameE.rf (sameW.app (sameT (b' := 1) (fun i hi => by rcases (show i = 0 ∨ i = 1 ∨ i = 2 ∨ i = 3 ∨ i = 4 ∨ i = 5 ∨ i = 6 ∨ i = 7 ∨ i = 8 ∨ i = 9 ∨ i = 10 ∨ i = 11 by omega) with rfl | rfl | rfl | rfl | rfl | rfl | rfl | rfl | rfl | rfl | rfl | rfl <;> rfl)) (sameW.app (sameT (b' := 13) (fun i hi => by rcases (show i = 0 ∨ i = 1 ∨ i = 2 ∨ i = 3 ∨ i = 4 ∨ i = 5 ∨ i = 6 ∨ i = 7 ∨ i = 8 ∨ i = 9 ∨ i = 10 ∨ i = 11 by omega) with rfl | rfl | rfl | rfl | rfl | rfl | rfl | rfl | rfl | rfl | rfl | rfl <;> rfl)) (sameW.app (sameT (b' := 25) (fun i hi => by rcases (show i = 0 ∨ i = 1 ∨ i = 2 ∨ i = 3 ∨ i = 4 ∨ i = 5 ∨ i = 6 ∨ i = 7 ∨ i = 8 ∨ i = 9 ∨ i = 10 ∨ i = 11 by omega) with rfl | rfl | rfl | rfl | rfl | rfl | rfl | rfl | rfl | rfl | rfl | rfl <;> rfl)) ?_)))
    exact (sameW.cons sameE.rf (sameW.cons (sameE_i (fun j _ => row_z _)) (sameW.cons sameE.rf (sameW.cons (sameE_q (fun j hj => by rcases (show j = 0 ∨ j = 1 ∨ j = 2 ∨ j = 3 by omega) with rfl | rfl | rfl | rfl <;> rfl)) (sameW.cons sameE.rf (sameW.cons (sameE_l (fun j _ => rowL_z _)) (sameW.cons sameE.rf (sameW.cons (sameE_l (fun j _ => rowL_z _)) (sameW.cons sameE.rf (sameW.cons (sameE_l (fun j _ => rowL_z _)) (sameW.cons sameE.rf (sameW.cons (sameE_l (fun j _ => rowL_z _)) (sameW.cons (sameE_i (fun j _ => row_z _)) sameW.nil)))))))))))))
  refine jx_wid (fun H h9 => hsm.P h9) (fun h9 => hsm.D h9) ?_
  exact jx_vretN E hr dX5_init_124 ⟨adr [o, a1 1, a1 2, a1 3, a1 4, a1 5, a1 6, a1 7, a1 8, a1 9, a1 10, a1 11, a1 12, a2 1, a2 2, a2 3, a2 4, a2 5, a2 6, a2 7, a2 8, a2 9, a2 10, a2 11, a2 12, a3 1, a3 2, a3 3, a3 4, a3 5, a3 6, a3 7, a3 8, a3 9, a3 10, a3 11, a3 12, q10, tb, q13, q16, q17, sn1, q20, sn2, q23, sn3, q26, sn4, q29], rfl, rfl⟩
