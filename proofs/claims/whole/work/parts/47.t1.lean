/-! 47.t1: laid by the walker out of specT1 -/
set_option maxHeartbeats 4000000 in
theorem c_X6_isByte (l : Launch) (G : GT) (b : Nat → Nat) (y : MS) {k lo hi : Int} (h1 : 0 ≤ k ∧ k ≤ 1000) (h2 : inR lo) (h3 : inR hi) (h4 : 0 ≤ y 8 1 ∧ y 8 1 ≤ 120) (h5 : ∀ k, 0 ≤ k → k < y 8 1 → 0 ≤ y 4 k ∧ y 4 k ≤ 255) : CtI l G yX6_isByte cX6_isByte 4 (some .boolean) 2 [.ref (b 0), vI k, vI lo, vI hi] (wsM G b y) (if k < (y 8) 1 ∧ lo ≤ (y 4) k ∧ (y 4) k ≤ hi then 1 else 0) (wsM G b y) := by
  have hT := h5
  have hk : k < y 8 1 → 0 ≤ y 4 k ∧ y 4 k ≤ 255 := fun q => hT k h1.1 q
  unfold inR at h2 h3
  refine CtI.of (by decide) (Nat.le_of_ble_eq_true rfl) ?_
  intro p e s m args below meth c A E hr
  refine jx_lv (lv' := [(0, .ref (b 0)), (1, vI k), (2, vI lo), (3, vI hi)]) [0, 1, 2, 3] rfl ?_
  refine jx_iload_n E 1 dX6_isByte_0 rfl ?_
  refine jx_aload_n E 0 dX6_isByte_1 rfl ?_
  refine jx_get E f_X6 6 (v := vI ((y 8) 1)) wm_obj (by decide) wf_X6_153 rfl dX6_isByte_2 ?_
  refine jx_icmp_ge (tgt := 27) E dX6_isByte_5 (by decide) (fun c1 => ?_) (fun c1 => ?_)
  · skip
    refine jx_iconst E dX6_isByte_27 ?_
    exact jx_zret E hr dX6_isByte_28 (by omega) (by first | rfl | (congr 1; done)) (by first | exact Or.inl rfl | exact Or.inr rfl | omega)
  · skip
    have hk2 := hk (by omega)
    refine jx_aload_n E 0 dX6_isByte_8 rfl ?_
    refine jx_get E f_X6 5 (v := .ref (b 5)) wm_obj (by decide) wf_X6_22 rfl dX6_isByte_9 ?_
    refine jx_iload_n E 1 dX6_isByte_12 rfl ?_
    refine jx_iald E (v := (y 4) k) wm_tape (row0_at (by omega) (by omega)) (by omega) (by omega) (by decide) dX6_isByte_13 ?_
    refine jx_i2l E dX6_isByte_14 ?_
    refine jx_iload_n E 2 dX6_isByte_15 rfl ?_
    refine jx_iload_n E 3 dX6_isByte_16 rfl ?_
    refine jx_callSi E [vL ((y 4) k), vI lo, vI hi] [] (c_X6_in l G (wsM G b y) (v := (y 4) k) (lo := lo) (hi := hi) (by unfold inL; omega) (by unfold inR; omega) (by unfold inR; omega)) mb_X6_in ms_X6_in wl_X6_41 dX6_isByte_17 ?_
    refine jx_if_eq (tgt := 27) E dX6_isByte_20 (by decide) (fun c2 => ?_) (fun c2 => ?_)
    · skip
      refine jx_iconst E dX6_isByte_27 ?_
      exact jx_zret E hr dX6_isByte_28 (by omega) (by first | rfl | (congr 1; done)) (by first | exact Or.inl rfl | exact Or.inr rfl | omega)
    · skip
      refine jx_iconst E dX6_isByte_23 ?_
      refine jx_goto (tgt := 28) E dX6_isByte_24 (by decide) ?_
      exact jx_zret E hr dX6_isByte_28 (by omega) (by first | rfl | (congr 1; done)) (by first | exact Or.inl rfl | exact Or.inr rfl | omega)
