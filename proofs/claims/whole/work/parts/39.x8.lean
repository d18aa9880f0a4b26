/-! 39.x8: laid by the walker out of specX8 -/
theorem byte_X (v : Int) (hv : inR v) (k : Nat) (hk : k < 4) : iI (((iI v).toUInt32 >>> ((iI (8 * (k : Int))).toUInt32 &&& Int32.toUInt32 31)).toInt32).toInt &&& iI 255 = iI (byteP v k) := by
  rw [← iI_of]
  have hs : (((iI (8 * (k : Int))).toUInt32 &&& Int32.toUInt32 31).toBitVec % 32).toNat = 8 * k := by
    match k, hk with
    | 0, _ => decide
    | 1, _ => decide
    | 2, _ => decide
    | 3, _ => decide
  have h1 := pk_ushr (iI v) (iI (8 * (k : Int))) (8 * k) hs
  obtain ⟨z, hz⟩ : ∃ z : Int32, z = ((iI v).toUInt32 >>> ((iI (8 * (k : Int))).toUInt32 &&& Int32.toUInt32 31)).toInt32 := ⟨_, rfl⟩
  rw [← hz] at h1 ⊢
  have h2 : z &&& iI 255 = nI (z.toBitVec.toNat % 2 ^ 8) := pk_and z 8 (by decide)
  rw [h2, h1]
  show Int32.ofNat _ = Int32.ofInt _
  rw [← Int32.ofInt_eq_ofNat]
  congr 1
  have hx : (iI v).toBitVec.toInt = v := iI_toInt hv
  rw [BitVec.toInt_eq_toNat_cond] at hx
  have hlt := (iI v).toBitVec.isLt
  unfold byteP
  obtain ⟨X, hX⟩ : ∃ X : Nat, X = (iI v).toBitVec.toNat := ⟨_, rfl⟩
  rw [← hX] at hx hlt ⊢
  match k, hk with
  | 0, _ => simp only [Nat.mul_zero, Nat.pow_zero, Nat.div_one, Int.pow_zero, Int.ediv_one]; split at hx <;> omega
  | 1, _ => simp only [Nat.mul_one, Int.pow_one]; split at hx <;> omega
  | 2, _ => rw [show (256 : Int) ^ 2 = 65536 from rfl, show 2 ^ (8 * 2) = 65536 from rfl]; split at hx <;> omega
  | 3, _ => rw [show (256 : Int) ^ 3 = 16777216 from rfl, show 2 ^ (8 * 3) = 16777216 from rfl]; split at hx <;> omega
set_option maxHeartbeats 4000000 in
theorem c_X1_isMissing (l : Launch) (G : GT) (a : Nat → Nat) (x : MS) {sh : Int} (h1 : 0 ≤ sh ∧ sh < 4) (h2 : vBits (x 9 (7 + 2 * sh))) : CtI l G yX1_isMissing cX1_isMissing 1 (some .boolean) 1 [.ref (a (41 + 2 * sh.toNat))] (wsX G a x) (if (x 9) (7 + 2 * sh) = 0 then 1 else 0) (wsX G a x) := by
  refine CtI.of (by decide) (Nat.le_of_ble_eq_true rfl) ?_
  intro p e s m args below meth c A E hr
  refine jx_lv (lv' := [(0, .ref (a (41 + 2 * sh.toNat)))]) [0] rfl ?_
  refine jx_aload_n E 0 dX1_isMissing_0 rfl ?_
  refine jx_get E f_X1 0 (v := vI ((x 9) (7 + 2 * sh))) (wx_sht (by omega) (by omega)) (by decide) wf_X1_9 rfl dX1_isMissing_1 ?_
  refine jx_if_ne (tgt := 11) E dX1_isMissing_4 (by decide) (fun c1 => ?_) (fun c1 => ?_)
  · skip
    refine jx_iconst E dX1_isMissing_11 ?_
    exact jx_zret E hr dX1_isMissing_12 (by omega) (by first | rfl | (congr 1; done)) (by first | exact Or.inl rfl | exact Or.inr rfl | omega)
  · skip
    refine jx_iconst E dX1_isMissing_7 ?_
    refine jx_goto (tgt := 12) E dX1_isMissing_8 (by decide) ?_
    exact jx_zret E hr dX1_isMissing_12 (by omega) (by first | rfl | (congr 1; done)) (by first | exact Or.inl rfl | exact Or.inr rfl | omega)
set_option maxHeartbeats 4000000 in
theorem c_X1_hasFrom (l : Launch) (G : GT) (a : Nat → Nat) (x : MS) {f n sh : Int} (h1 : 0 ≤ sh ∧ sh < 4) (h2 : 0 ≤ x 9 (8 + 2 * sh) ∧ x 9 (8 + 2 * sh) ≤ 40) (h3 : inR f) (h4 : inR n) : CtI l G yX1_hasFrom cX1_hasFrom 3 (some .boolean) 1 [.ref (a (41 + 2 * sh.toNat)), vI f, vI n] (wsX G a x) (if 0 ≤ f ∧ 0 ≤ n ∧ n ≤ (x 9) (8 + 2 * sh) - f then 1 else 0) (wsX G a x) := by
  unfold inR at h3 h4
  refine CtI.of (by decide) (Nat.le_of_ble_eq_true rfl) ?_
  intro p e s m args below meth c A E hr
  refine jx_lv (lv' := [(0, .ref (a (41 + 2 * sh.toNat))), (1, vI f), (2, vI n)]) [0, 1, 2] rfl ?_
  refine jx_iload_n E 1 dX1_hasFrom_0 rfl ?_
  refine jx_if_lt (tgt := 22) E dX1_hasFrom_1 (by decide) (fun c1 => ?_) (fun c1 => ?_)
  · skip
    refine jx_iconst E dX1_hasFrom_22 ?_
    exact jx_zret E hr dX1_hasFrom_23 (by omega) (by first | rfl | (congr 1; done)) (by first | exact Or.inl rfl | exact Or.inr rfl | omega)
  · skip
    refine jx_iload_n E 2 dX1_hasFrom_4 rfl ?_
    refine jx_if_lt (tgt := 22) E dX1_hasFrom_5 (by decide) (fun c2 => ?_) (fun c2 => ?_)
    · skip
      refine jx_iconst E dX1_hasFrom_22 ?_
      exact jx_zret E hr dX1_hasFrom_23 (by omega) (by first | rfl | (congr 1; done)) (by first | exact Or.inl rfl | exact Or.inr rfl | omega)
    · skip
      refine jx_iload_n E 2 dX1_hasFrom_8 rfl ?_
      refine jx_aload_n E 0 dX1_hasFrom_9 rfl ?_
      refine jx_get E f_X1 1 (v := vI ((x 9) (8 + 2 * sh))) (wx_sht (by omega) (by omega)) (by decide) wf_X1_15 rfl dX1_hasFrom_10 ?_
      refine jx_iload_n E 1 dX1_hasFrom_13 rfl ?_
      refine jx_isub E dX1_hasFrom_14 ?_
      refine jx_icmp_gt (tgt := 22) E dX1_hasFrom_15 (by decide) (fun c3 => ?_) (fun c3 => ?_)
      · skip
        refine jx_iconst E dX1_hasFrom_22 ?_
        exact jx_zret E hr dX1_hasFrom_23 (by omega) (by first | rfl | (congr 1; done)) (by first | exact Or.inl rfl | exact Or.inr rfl | omega)
      · skip
        refine jx_iconst E dX1_hasFrom_18 ?_
        refine jx_goto (tgt := 23) E dX1_hasFrom_19 (by decide) ?_
        exact jx_zret E hr dX1_hasFrom_23 (by omega) (by first | rfl | (congr 1; done)) (by first | exact Or.inl rfl | exact Or.inr rfl | omega)
set_option maxHeartbeats 4000000 in
theorem c_X1_put (l : Launch) (G : GT) (a : Nat → Nat) (x : MS) {i v sh : Int} (h1 : 0 ≤ sh ∧ sh < 4) (h2 : VS (x 9 (7 + 2 * sh)) (x 9 (8 + 2 * sh)) (shX x sh)) (h3 : 0 ≤ i ∧ i < x 9 (8 + 2 * sh)) (h4 : inL v) : CtV l G yX1_put cX1_put 4 none 1 [.ref (a (41 + 2 * sh.toNat)), vI i, vL v] (wsX G a x) (wsX G a (setc x 5 (updI (x 5) (40 * sh + i) (cutP ((x 9) (7 + 2 * sh)) v)))) := by
  obtain ⟨z1, z2, z3, z4, z5⟩ := id h2
  have b8 := bm8 v
  have b16 := bm16 v
  refine CtV.of (by decide) (Nat.le_of_ble_eq_true rfl) ?_
  intro p e s m args below meth c A E hr
  refine jx_lv (lv' := [(0, .ref (a (41 + 2 * sh.toNat))), (1, vI i), (2, vL v)]) [0, 1, 2] rfl ?_
  refine jx_iload_n E 1 dX1_put_0 rfl ?_
  refine jx_if_lt (tgt := 12) E dX1_put_1 (by decide) (fun c1 => ?_) (fun c1 => ?_)
  · skip
    exact jx_vret E hr dX1_put_12 (by simp only [cutP]; first | (exfalso; omega) | (rw [if_pos (by assumption)]; done) | (rw [if_neg (by omega), if_pos (by omega)]; done) | (rw [if_neg (by omega), if_neg (by omega)]; done))
  · skip
    refine jx_iload_n E 1 dX1_put_4 rfl ?_
    refine jx_aload_n E 0 dX1_put_5 rfl ?_
    refine jx_get E f_X1 1 (v := vI ((x 9) (8 + 2 * sh))) (wx_sht (by omega) (by omega)) (by decide) wf_X1_15 rfl dX1_put_6 ?_
    refine jx_icmp_lt (tgt := 13) E dX1_put_9 (by decide) (fun c2 => ?_) (fun c2 => ?_)
    · skip
      refine jx_aload_n E 0 dX1_put_13 rfl ?_
      refine jx_get E f_X1 0 (v := vI ((x 9) (7 + 2 * sh))) (wx_sht (by omega) (by omega)) (by decide) wf_X1_9 rfl dX1_put_14 ?_
      refine jx_bipush E dX1_put_17 ?_
      refine jx_icmp_ne (tgt := 35) E dX1_put_19 (by decide) (fun c3 => ?_) (fun c3 => ?_)
      · skip
        refine jx_aload_n E 0 dX1_put_35 rfl ?_
        refine jx_get E f_X1 0 (v := vI ((x 9) (7 + 2 * sh))) (wx_sht (by omega) (by omega)) (by decide) wf_X1_9 rfl dX1_put_36 ?_
        refine jx_bipush E dX1_put_39 ?_
        refine jx_icmp_ne (tgt := 57) E dX1_put_41 (by decide) (fun c4 => ?_) (fun c4 => ?_)
        · skip
          refine jx_aload_n E 0 dX1_put_57 rfl ?_
          refine jx_get E f_X1 2 (v := .ref (a (42 + 2 * sh.toNat))) (wx_sht (by omega) (by omega)) (by decide) wf_X1_18 rfl dX1_put_58 ?_
          refine jx_iload_n E 1 dX1_put_61 rfl ?_
          refine jx_lload_n E 2 dX1_put_62 rfl ?_
          refine jx_last E (wx_nums (by omega) (by omega)) (wp_nums (by omega) (by omega) (by omega) (by omega)) (by omega) (by omega) (by decide) dX1_put_63 ?_
          exact jx_vret E hr dX1_put_64 (by simp only [cutP]; first | (exfalso; omega) | (rw [if_pos (by assumption)]; done) | (rw [if_neg (by omega), if_pos (by omega)]; done) | (rw [if_neg (by omega), if_neg (by omega)]; done))
        · skip
          refine jx_aload_n E 0 dX1_put_44 rfl ?_
          refine jx_get E f_X1 2 (v := .ref (a (42 + 2 * sh.toNat))) (wx_sht (by omega) (by omega)) (by decide) wf_X1_18 rfl dX1_put_45 ?_
          refine jx_iload_n E 1 dX1_put_48 rfl ?_
          refine jx_lload_n E 2 dX1_put_49 rfl ?_
          refine jx_l2i E dX1_put_50 ?_
          refine jx_i2s E dX1_put_51 ?_
          refine jx_i2l E dX1_put_52 ?_
          refine jx_last E (wx_nums (by omega) (by omega)) (wp_nums (by omega) (by omega) (by omega) (by omega)) (by omega) (by omega) (by decide) dX1_put_53 ?_
          refine jx_goto (tgt := 64) E dX1_put_54 (by decide) ?_
          exact jx_vret E hr dX1_put_64 (by simp only [cutP]; first | (exfalso; omega) | (rw [if_pos (by assumption)]; done) | (rw [if_neg (by omega), if_pos (by omega)]; done) | (rw [if_neg (by omega), if_neg (by omega)]; done))
      · skip
        refine jx_aload_n E 0 dX1_put_22 rfl ?_
        refine jx_get E f_X1 2 (v := .ref (a (42 + 2 * sh.toNat))) (wx_sht (by omega) (by omega)) (by decide) wf_X1_18 rfl dX1_put_23 ?_
        refine jx_iload_n E 1 dX1_put_26 rfl ?_
        refine jx_lload_n E 2 dX1_put_27 rfl ?_
        refine jx_l2i E dX1_put_28 ?_
        refine jx_i2b E dX1_put_29 ?_
        refine jx_i2l E dX1_put_30 ?_
        refine jx_last E (wx_nums (by omega) (by omega)) (wp_nums (by omega) (by omega) (by omega) (by omega)) (by omega) (by omega) (by decide) dX1_put_31 ?_
        refine jx_goto (tgt := 64) E dX1_put_32 (by decide) ?_
        exact jx_vret E hr dX1_put_64 (by simp only [cutP]; first | (exfalso; omega) | (rw [if_pos (by assumption)]; done) | (rw [if_neg (by omega), if_pos (by omega)]; done) | (rw [if_neg (by omega), if_neg (by omega)]; done))
    · skip
      exact jx_vret E hr dX1_put_12 (by simp only [cutP]; first | (exfalso; omega) | (rw [if_pos (by assumption)]; done) | (rw [if_neg (by omega), if_pos (by omega)]; done) | (rw [if_neg (by omega), if_neg (by omega)]; done))
set_option maxHeartbeats 4000000 in
theorem c_X2_add (l : Launch) (G : GT) (a : Nat → Nat) (x : MS) {v : Int} (h1 : 0 ≤ x 9 1 ∧ x 9 1 < 120) : CtV l G yX2_add cX2_add 2 none 1 [.ref (a 37), vI v] (wsX G a x) (wsX G a (setc (setc x 3 (updI (x 3) ((x 9) 1) (iI v &&& iI 255).toInt)) 9 (updI (x 9) 1 ((x 9) 1 + 1)))) := by
  refine CtV.of (by decide) (Nat.le_of_ble_eq_true rfl) ?_
  intro p e s m args below meth c A E hr
  refine jx_lv (lv' := [(0, .ref (a 37)), (1, vI v)]) [0, 1] rfl ?_
  refine jx_aload_n E 0 dX2_add_0 rfl ?_
  refine jx_get E f_X2 1 (v := vI ((x 9) 1)) wx_tape (by decide) wf_X2_15 rfl dX2_add_1 ?_
  refine jx_bipush E dX2_add_4 ?_
  refine jx_icmp_ge (tgt := 33) E dX2_add_6 (by decide) (fun c1 => ?_) (fun c1 => ?_)
  · skip
    exact jx_vret E hr dX2_add_33 (by first | rfl | (exfalso; omega))
  · skip
    refine jx_aload_n E 0 dX2_add_9 rfl ?_
    refine jx_get E f_X2 0 (v := .ref (a 38)) wx_tape (by decide) wf_X2_9 rfl dX2_add_10 ?_
    refine jx_aload_n E 0 dX2_add_13 rfl ?_
    refine jx_get E f_X2 1 (v := vI ((x 9) 1)) wx_tape (by decide) wf_X2_15 rfl dX2_add_14 ?_
    refine jx_iload_n E 1 dX2_add_17 rfl ?_
    refine jx_sipush E dX2_add_18 ?_
    refine jx_iand E (z := (iI v &&& iI 255).toInt) dX2_add_21 (iI_of _) ?_
    refine jx_iast E wx_byts (wp_byts (by omega) (by omega)) (by omega) (by omega) (by decide) dX2_add_22 ?_
    refine jx_aload_n E 0 dX2_add_23 rfl ?_
    refine jx_dup E dX2_add_24 ?_
    refine jx_get E f_X2 1 (v := vI ((x 9) 1)) wx_tape (by decide) wf_X2_15 (by first | rfl | (simp only [setc_at, List.getElem?_cons_zero, List.getElem?_cons_succ]; done) | (simp [setc_at]; done)) dX2_add_25 ?_
    refine jx_iconst E dX2_add_28 ?_
    refine jx_iadd E dX2_add_29 ?_
    refine jx_put E f_X2 1 wx_tape (by decide) wf_X2_15 rfl rfl rfl (Nat.le_of_ble_eq_true rfl) wp_tlen dX2_add_30 ?_
    exact jx_vret E hr dX2_add_33 (by first | rfl | (exfalso; omega))
set_option maxHeartbeats 4000000 in
theorem c_X5_askSheet (l : Launch) (G : GT) (a : Nat → Nat) (x : MS) {sh : Int} (h1 : inR sh) (h2 : vSheet sh → vBits (x 9 (7 + 2 * sh))) : CtI l G yX5_askSheet cX5_askSheet 2 (some .int) 2 [.ref (a 0), vI sh] (wsX G a x) (nthR ((x 9) (7 + 2 * sh)) sh) (wsX G a x) := by
  unfold inR at h1
  refine CtI.of (by decide) (Nat.le_of_ble_eq_true rfl) ?_
  intro p e s m args below meth c A E hr
  refine jx_lv (lv' := [(0, .ref (a 0)), (1, vI sh)]) [0, 1] rfl ?_
  refine jx_iload_n E 1 dX5_askSheet_0 rfl ?_
  refine jx_callSi E [vI sh] [] (c_X5_isSheet l G (wsX G a x) (n := sh) (by unfold inR; omega)) mb_X5_isSheet ms_X5_isSheet wl_X5_202 dX5_askSheet_1 ?_
  refine jx_if_ne (tgt := 10) E dX5_askSheet_4 (by decide) (fun c1 => ?_) (fun c1 => ?_)
  · skip
    refine jx_aload_n E 0 dX5_askSheet_10 rfl ?_
    refine jx_get E f_X5 6 (v := .ref (a 40)) wx_obj (by decide) wf_X5_45 rfl dX5_askSheet_11 ?_
    refine jx_iload_n E 1 dX5_askSheet_14 rfl ?_
    refine jx_aald E 3 (y := a (41 + 2 * sh.toNat)) wx_shts rfl rfl (by omega) (by omega) (by decide) dX5_askSheet_15 ?_
    refine jx_callVi E [] [] (c_X1_isMissing l G a x (sh := sh) (by omega) (h2 (by omega))) mb_X1_isMissing mv_X1_isMissing wl_X5_222 f_X1 (wx_sht (by omega) (by omega)) dX5_askSheet_16 ?_
    refine jx_if_eq (tgt := 27) E dX5_askSheet_19 (by decide) (fun c2 => ?_) (fun c2 => ?_)
    · skip
      refine jx_iconst E dX5_askSheet_27 ?_
      exact jx_iret E hr dX5_askSheet_28 (by simp only [nthR]; omega) (by first | rfl | (congr 1; done))
    · skip
      refine jx_ldc E wc_X5_225 dX5_askSheet_22 ?_
      refine jx_goto (tgt := 28) E dX5_askSheet_24 (by decide) ?_
      exact jx_iret E hr dX5_askSheet_28 (by simp only [nthR]; omega) (by first | rfl | (congr 1; done))
  · skip
    refine jx_ldc E wc_X5_53 dX5_askSheet_7 ?_
    exact jx_iret E hr dX5_askSheet_9 (by simp only [nthR]; omega) (by first | rfl | (congr 1; done))
set_option maxHeartbeats 4000000 in
theorem c_X5_wipe (l : Launch) (G : GT) (a : Nat → Nat) (x : MS) : CtI l G yX5_wipe cX5_wipe 2 (some .int) 1 [.ref (a 0)] (wsX G a x) ((x 9) 1) (wsX G a (setc x 9 (updI (x 9) 1 0))) := by
  refine CtI.of (by decide) (Nat.le_of_ble_eq_true rfl) ?_
  intro p e s m args below meth c A E hr
  refine jx_lv (lv' := [(0, .ref (a 0))]) [0] rfl ?_
  refine jx_aload_n E 0 dX5_wipe_0 rfl ?_
  refine jx_get E f_X5 4 (v := .ref (a 37)) wx_obj (by decide) wf_X5_29 rfl dX5_wipe_1 ?_
  refine jx_get E f_X2 1 (v := vI ((x 9) 1)) wx_tape (by decide) wf_X5_192 rfl dX5_wipe_4 ?_
  refine jx_istore_n E dX5_wipe_7 (by decide) [(1, vI ((x 9) 1)), (0, .ref (a 0))] rfl ?_
  refine jx_aload_n E 1 dX5_wipe_8 rfl ?_
  refine jx_get E f_X5 4 (v := .ref (a 37)) wx_obj (by decide) wf_X5_29 rfl dX5_wipe_9 ?_
  refine jx_iconst E dX5_wipe_12 ?_
  refine jx_put E f_X2 1 wx_tape (by decide) wf_X5_192 rfl rfl rfl (Nat.le_of_ble_eq_true rfl) wp_tlen dX5_wipe_13 ?_
  refine jx_iload_n E 0 dX5_wipe_16 rfl ?_
  exact jx_iret E hr dX5_wipe_17 (by first | rfl | omega) (by first | rfl | (congr 1; done))
set_option maxHeartbeats 4000000 in
theorem c_X5_image (l : Launch) (G : GT) (a : Nat → Nat) (x : MS) (h1 : 0 ≤ x 0 4 ∧ x 0 4 ≤ 8) : CtI l G yX5_image cX5_image 1 (some .int) 3 [.ref (a 0)] (wsX G a x) 1 (wsX G a (setc (setc x 2 (hdP (x 2) (x 0) (21 + 5 * (x 0) 4))) 9 (updI (x 9) 0 1))) := by
  refine CtI.of (by decide) (Nat.le_of_ble_eq_true rfl) ?_
  intro p e s m args below meth c A E hr
  refine jx_lv (lv' := [(0, .ref (a 0))]) [0] rfl ?_
  refine jx_aload_n E 0 dX5_image_0 rfl ?_
  refine jx_get E f_X5 2 (v := .ref (a 25)) wx_obj (by decide) wf_X5_19 rfl dX5_image_1 ?_
  refine jx_aload_n E 0 dX5_image_4 rfl ?_
  refine jx_get E f_X5 0 (v := .ref (a 1)) wx_obj (by decide) wf_X5_10 rfl dX5_image_5 ?_
  refine jx_callVv E [.ref (a 1)] [] (c_X4_become_20 l G a x  h1) mb_X4_become mv_X4_become wl_X5_166 f_X4 (wx_town (j := 2) (by decide)) dX5_image_8 ?_
  refine jx_aload_n E 0 dX5_image_11 rfl ?_
  refine jx_iconst E dX5_image_12 ?_
  refine jx_put E f_X5 3 wx_obj (by decide) wf_X5_22 rfl (by first | rfl | exact narZ (by omega)) (by first | rfl | exact fitZ (by omega)) (Nat.le_of_ble_eq_true rfl) wp_keeps dX5_image_13 ?_
  refine jx_iconst E dX5_image_16 ?_
  exact jx_iret E hr dX5_image_17 (by first | rfl | omega) (by first | rfl | (congr 1; done))
set_option maxHeartbeats 4000000 in
theorem c_X5_undo (l : Launch) (G : GT) (a : Nat → Nat) (x : MS) (h1 : x 9 0 = 0 ∨ x 9 0 = 1) (h2 : x 9 0 = 1 → 0 ≤ x 2 4 ∧ x 2 4 ≤ 8) : CtI l G yX5_undo cX5_undo 1 (some .int) 3 [.ref (a 0)] (wsX G a x) (if x 9 0 = 0 then -1000000004 else x 2 4) (wsX G a (if x 9 0 = 0 then setc x 4 (tallyP (x 4) (-1000000004)) else setc x 0 (hdP (x 0) (x 2) (21 + 5 * (x 2) 4)))) := by
  refine CtI.of (by decide) (Nat.le_of_ble_eq_true rfl) ?_
  intro p e s m args below meth c A E hr
  refine jx_lv (lv' := [(0, .ref (a 0))]) [0] rfl ?_
  refine jx_aload_n E 0 dX5_undo_0 rfl ?_
  refine jx_get E f_X5 3 (v := vI ((x 9) 0)) wx_obj (by decide) wf_X5_22 rfl dX5_undo_1 ?_
  refine jx_if_ne (tgt := 14) E dX5_undo_4 (by decide) (fun c1 => ?_) (fun c1 => ?_)
  · skip
    refine jx_aload_n E 0 dX5_undo_14 rfl ?_
    refine jx_get E f_X5 0 (v := .ref (a 1)) wx_obj (by decide) wf_X5_10 rfl dX5_undo_15 ?_
    refine jx_aload_n E 0 dX5_undo_18 rfl ?_
    refine jx_get E f_X5 2 (v := .ref (a 25)) wx_obj (by decide) wf_X5_19 rfl dX5_undo_19 ?_
    refine jx_callVv E [.ref (a 25)] [] (c_X4_become_02 l G a x  (h2 (by omega))) mb_X4_become mv_X4_become wl_X5_166 f_X4 (wx_town (j := 0) (by decide)) dX5_undo_22 ?_
    refine jx_aload_n E 0 dX5_undo_25 rfl ?_
    refine jx_get E f_X5 0 (v := .ref (a 1)) wx_obj (by decide) wf_X5_10 rfl dX5_undo_26 ?_
    refine jx_get E f_X4 7 (v := vI ((hdP (x 0) (x 2) (21 + 5 * (x 2) 4)) 4)) (wx_town (j := 0) (by decide)) (by decide) wf_X5_94 (by first | rfl | (simp only [setc_at, List.getElem?_cons_zero, List.getElem?_cons_succ]; done) | (simp [setc_at]; done)) dX5_undo_29 ?_
    exact jx_iret E hr dX5_undo_32 (by have h9 := h2 (by omega); rw [if_neg (by omega)]; simp only [hdP]; rw [if_pos (by omega)]) (by first | (rw [if_pos (by omega)]; done) | (rw [if_neg (by omega)]; done))
  · skip
    refine jx_aload_n E 0 dX5_undo_7 rfl ?_
    refine jx_ldc E wc_X5_153 dX5_undo_8 ?_
    refine jx_callVi E [vI (-1000000004)] [] (c_X5_found l G a x (f := (-1000000004)) (by omega)) mb_X5_found mv_X5_found wl_X5_54 f_X5 wx_obj dX5_undo_10 ?_
    exact jx_iret E hr dX5_undo_13 (by rw [if_pos (by omega)]) (by first | (rw [if_pos (by omega)]; done) | (rw [if_neg (by omega)]; done))
set_option maxHeartbeats 4000000 in
theorem c_X5_tear (l : Launch) (G : GT) (a : Nat → Nat) (x : MS) (h1 : x 9 0 = 0 ∨ x 9 0 = 1) : CtI l G yX5_tear cX5_tear 2 (some .int) 1 [.ref (a 0)] (wsX G a x) (x 9 0) (wsX G a (setc x 9 (updI (x 9) 0 0))) := by
  refine CtI.of (by decide) (Nat.le_of_ble_eq_true rfl) ?_
  intro p e s m args below meth c A E hr
  refine jx_lv (lv' := [(0, .ref (a 0))]) [0] rfl ?_
  refine jx_aload_n E 0 dX5_tear_0 rfl ?_
  refine jx_get E f_X5 3 (v := vI ((x 9) 0)) wx_obj (by decide) wf_X5_22 rfl dX5_tear_1 ?_
  refine jx_if_eq (tgt := 11) E dX5_tear_4 (by decide) (fun c1 => ?_) (fun c1 => ?_)
  · skip
    refine jx_iconst E dX5_tear_11 ?_
    refine jx_istore_n E dX5_tear_12 (by decide) [(1, vI 0), (0, .ref (a 0))] rfl ?_
    refine jx_aload_n E 1 dX5_tear_13 rfl ?_
    refine jx_iconst E dX5_tear_14 ?_
    refine jx_put E f_X5 3 wx_obj (by decide) wf_X5_22 rfl (by first | rfl | exact narZ (by omega)) (by first | rfl | exact fitZ (by omega)) (Nat.le_of_ble_eq_true rfl) wp_keeps dX5_tear_15 ?_
    refine jx_iload_n E 0 dX5_tear_18 rfl ?_
    exact jx_iret E hr dX5_tear_19 (by omega) (by first | rfl | (congr 1; done))
  · skip
    refine jx_iconst E dX5_tear_7 ?_
    refine jx_goto (tgt := 12) E dX5_tear_8 (by decide) ?_
    refine jx_istore_n E dX5_tear_12 (by decide) [(1, vI 1), (0, .ref (a 0))] rfl ?_
    refine jx_aload_n E 1 dX5_tear_13 rfl ?_
    refine jx_iconst E dX5_tear_14 ?_
    refine jx_put E f_X5 3 wx_obj (by decide) wf_X5_22 rfl (by first | rfl | exact narZ (by omega)) (by first | rfl | exact fitZ (by omega)) (Nat.le_of_ble_eq_true rfl) wp_keeps dX5_tear_15 ?_
    refine jx_iload_n E 0 dX5_tear_18 rfl ?_
    exact jx_iret E hr dX5_tear_19 (by omega) (by first | rfl | (congr 1; done))
