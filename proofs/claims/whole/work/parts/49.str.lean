/-! string constants: the words of the text, and the JDK's own members over them -/
def swc (i k : Nat) : Int := ((sw_byt.getD i []).getD k 0).toInt
theorem swc_ok : ∀ i : Nat, i < 13 → ∀ k : Nat, k < 7 → k < sw_len.getD i 0 → (iI (swc i k) &&& iI 255 = iI (swc i k) ∧ ((iI (swc i k)).toUInt32 % 65536).toInt32 = iI (swc i k) ∧ (iI (swc i k)).toUInt32.toUInt16.toUInt32.toInt32 = iI (swc i k)) ∧ swc i k = nm_row.getD (7 * i + k) 0 := by decide +kernel
theorem nm_in : ∀ k : Nat, k < 91 → 0 ≤ nm_row.getD k 0 ∧ nm_row.getD k 0 ≤ 122 := by decide +kernel
section JXS
variable {p : Program} {l : Launch} {e : Env} {R : Room} {s : State} {m : MethodId} {args : Array Value} {below : List Frame} {meth : Method} {c : Code} {nL : Nat} {G : GT} {A : Nat → Prop} {kc ks : Nat} {Q : State → Prop} {ws : va_W} {pc : Nat} {lv : List (Nat × Value)} {st : List Value} {cc : ByteArray} {own : String}
theorem jx_ldcS (E : CT p s m args meth c nL G A cc RX3) (i : Nat) (hi : i < 13) {idx : Nat} (hx : sw_pool.getD i 0 = idx) (hd : decode cc pc = .ok (.ldc idx, 2)) (k : JX p l e R s m args below meth c nL G A kc ks Q ws (pc + 2) lv (.ref (G.2.2 (2 + i)) :: st)) : JX p l e R s m args below meth c nL G A kc ks Q ws pc lv st := fun hD H locs ls hP hS hl => va_ldcS E.1 E.2.1 E.2.2.2.1 (hx ▸ E.2.2.2.2.2.2.2.1.2.2.2.2.2.2.2 i hi) hd (k hD H locs ls hP hS hl)
theorem jx_sval (E : CT p s m args meth c nL G A cc RJ0) (i : Nat) (hi : i < 13) (hd : decode cc pc = .ok (.getfield 9, 3)) (k : JX p l e R s m args below meth c nL G A kc ks Q ws (pc + 3) lv (.ref (G.2.2 (20 + i)) :: st)) : JX p l e R s m args below meth c nL G A kc ks Q ws pc lv (.ref (G.2.2 (2 + i)) :: st) := fun hD H locs ls hP hS hl => vk_getf E.1 E.2.1 (E.2.2.2.2.2.2.2.1.2.2.2.2.1.1 i hi).2.2.1 hS E.2.2.2.1 (E.2.2.2.2.1 _ wf_J0_9) (fun _ h => h) hd (k hD H locs ls hP hS hl)
theorem jx_scod (E : CT p s m args meth c nL G A cc RJ0) (i : Nat) (hi : i < 13) (hd : decode cc pc = .ok (.getfield 15, 3)) (k : JX p l e R s m args below meth c nL G A kc ks Q ws (pc + 3) lv (vI 0 :: st)) : JX p l e R s m args below meth c nL G A kc ks Q ws pc lv (.ref (G.2.2 (2 + i)) :: st) := fun hD H locs ls hP hS hl => vk_getf E.1 E.2.1 (v := vI 0) (E.2.2.2.2.2.2.2.1.2.2.2.2.1.1 i hi).2.1 hS E.2.2.2.1 (E.2.2.2.2.1 _ wf_J0_15) (fun _ h => h) hd (k hD H locs ls hP hS hl)
theorem jx_getsc (E : CT p s m args meth c nL G A cc RJ0) (hd : decode cc pc = .ok (.getstatic 38, 3)) (k : JX p l e R s m args below meth c nL G A kc ks Q ws (pc + 3) lv (vI 1 :: st)) : JX p l e R s m args below meth c nL G A kc ks Q ws pc lv st := fun hD H locs ls hP hS hl => va_gets E.1 E.2.1 (v := vI 1) E.2.2.2.2.2.2.2.1.2.2.2.2.2.1 hS E.2.2.2.1 (E.2.2.2.2.1 _ wf_J0_38) (fun _ h => h) hd (k hD H locs ls hP hS hl)
theorem jx_getsq (E : CT p s m args meth c nL G A cc RJ0) (hd : decode cc pc = .ok (.getstatic 1053, 3)) (k0 : JX p l e R s m args below meth c nL G A kc ks Q ws (pc + 3) lv (.null :: st)) (k1 : ∀ t : Nat, JX p l e R s m args below meth c nL G A kc ks Q ws (pc + 3) lv (.ref t :: st)) : JX p l e R s m args below meth c nL G A kc ks Q ws pc lv st := fun hD H locs ls hP hS hl => by
  rcases E.2.2.2.2.2.2.2.1.2.2.2.2.2.2.1 with h | ⟨t, h⟩
  · exact va_gets E.1 E.2.1 h hS E.2.2.2.1 (E.2.2.2.2.1 _ wf_J0_1053) (fun _ h => h) hd (k0 hD H locs ls hP hS hl)
  · exact va_gets E.1 E.2.1 h hS E.2.2.2.1 (E.2.2.2.2.1 _ wf_J0_1053) (fun _ h => h) hd (k1 t hD H locs ls hP hS hl)
theorem jx_slen (E : CT p s m args meth c nL G A cc own) (i : Nat) (hi : i < 13) (hd : decode cc pc = .ok (.arraylength, 1)) (k : JX p l e R s m args below meth c nL G A kc ks Q ws (pc + 1) lv (vI (lenW i) :: st)) : JX p l e R s m args below meth c nL G A kc ks Q ws pc lv (.ref (G.2.2 (20 + i)) :: st) := fun hD H locs ls hP hS hl => va_tlen E.1 E.2.1 (E.2.2.2.2.2.2.2.1.2.2.2.2.1.1 i hi).2.2.2 hS (v := iI (lenW i)) Int32.ofInt_eq_ofNat.symm hd (k hD H locs ls hP hS hl)
theorem jx_sbal (E : CT p s m args meth c nL G A cc own) (i : Nat) (hi : i < 13) {k9 : Int} (h0 : 0 ≤ k9) (h1 : k9 < lenW i) (h7 : k9 < 7) (hd : decode cc pc = .ok (.baload, 1)) (k : JX p l e R s m args below meth c nL G A kc ks Q ws (pc + 1) lv (vI (swc i k9.toNat) :: st)) : JX p l e R s m args below meth c nL G A kc ks Q ws pc lv (vI k9 :: .ref (G.2.2 (20 + i)) :: st) := fun hD H locs ls hP hS hl => va_tb E.1 E.2.1 (E.2.2.2.2.2.2.2.1.2.2.2.2.1.1 i hi).2.2.2 hS (iI_in h0 (by unfold lenW at h1; omega) (by unfold lenW at h1; have := (nm_len i hi).1; omega)) (v := vI (swc i k9.toNat)) (by rw [iI_cl h0 (by omega)]; exact congrArg Value.int (iI_of _)) hd (k hD H locs ls hP hS hl)
theorem jx_i2c (E : CT p s m args meth c nL G A cc own) {x z : Int} (hd : decode cc pc = .ok (.i2c, 1)) (hz : ((iI x).toUInt32 % 65536).toInt32 = iI z) (k : JX p l e R s m args below meth c nL G A kc ks Q ws (pc + 1) lv (vI z :: st)) : JX p l e R s m args below meth c nL G A kc ks Q ws pc lv (vI x :: st) := fun hD H locs ls hP hS hl => lv_i2c E.1 E.2.1 hd hz (k hD H locs ls hP hS hl)
theorem jx_nret {r : Int} {ws' : va_W} {ty : FieldType} (E : CT p s m args meth c nL G A cc own) {r' : Int} (hr : meth.sig.returnType = some ty) (hd : decode cc pc = .ok (.ireturn, 1)) (h : r' = r) (hw : ws = ws') (hn : narrow ty (vI r') = vI r') : JX p l e R s m args below meth c nL G A 0 0 (QI below args s G A r ws') ws pc lv [vI r'] :=
  fun hD H locs ls hP hS hl => W.zret E.1 E.2.1 hr hn (fun t ht hW => ⟨⟨iI r', (), rfl, by rw [h], by rw [ht, ← hw]; exact hP, va_K.moved hW.alike E.2.2.2.2.2.1, by rw [← hw]; exact hD⟩, hS.F ht⟩) hS.2.2 hd E.2.2.2.2.2.2.2.2
theorem jx_callKi (E : CT p s m args meth c nL G A cc own) {y : MethodName} {bytes : ByteArray} {maxL n d i : Nat} {ret : Option FieldType} {ws' : va_W} {r : Int} {st0 : List Value} (w0 : Nat) (hw0 : w0 < 13) (hy : y.cls = "java/lang/String") (As rest : List Value) (hc : CtI l G y bytes maxL ret d (.ref (G.2.2 (2 + w0)) :: As) ws r ws') (hm : MB y bytes maxL ret n) (hv : MV y) (hlink : Cond.methodLink own i y ∈ TB) (hd : decode cc pc = .ok (.invokevirtual i, 3)) (k : JX p l e R s m args below meth c nL G A kc ks Q ws' (pc + 3) lv (vI r :: rest)) (hst : st0 = As.reverse ++ .ref (G.2.2 (2 + w0)) :: rest := by rfl) (hn : As.length = n := by rfl) (hrest : (rest.map fun v => v.category).sum ≤ 8 := by exact Nat.le_of_ble_eq_true rfl) (hRf : d + 1 ≤ R.frames := by decide) (hRl : 8 + (maxL + 11) + 40 * d ≤ R.locals := by decide) (hRc : kc ≤ R.cells := by decide) (hRs : ks ≤ R.slots := by decide) : JX p l e R s m args below meth c nL G A kc ks Q ws pc lv st0 := fun hD H locs ls hP hS hl => by
  subst hst
  have hF := va_A_self hD hS E.2.2.2.2.2.2.1
  refine va_calli (va_runV (As := As) (rest := rest) (C := y.cls) ⟨E.1, E.2.1, E.2.2.1, E.2.2.2.1, E.2.2.2.2.1⟩ (hc H.size) ⟨jx_callB E hm hlink hRf hRl, E.2.2.2.2.1 _ hv.1, E.2.2.2.2.1 _ hv.2⟩ ⟨pre_blind, by rw [hy]; exact vk_recv (adK := fun i => G.2.2 (2 + i)) (i := w0) E.2.2.2.2.2.2.2.1.2.2.2.2.1 hw0 hS, fun U hU hW => ⟨rfl, pre_of E hD hP hS hU hW⟩⟩ rfl hn hl.1 rfl (lv_room hrest) hd ⟨hRc, hRs⟩) hS (fun q _ h => hF q h) hF (fun q u t H1 locs1 ht hvm hw hB hz1 hk1 hS1 => ?_)
  subst hw
  exact k (va_D_up hB.2.2 hF) H1 locs1 ls (ht ▸ hB.1) hS1 hl
end JXS
set_option maxHeartbeats 4000000 in
theorem c_J3_checkIndex_8e157_n (l : Launch) (G : GT) (ws : va_W) {i n : Int}  (h : 0 ≤ i ∧ i < n) (hn : n ≤ 2147483647) : CtI l G yJ3_checkIndex_8e157 cJ3_checkIndex_8e157 3 (some .int) 1 [vI i, vI n, .null] ws i ws := by
  refine CtI.of (by decide) (Nat.le_of_ble_eq_true rfl) ?_
  intro p e s m args below meth c A E hr
  refine jx_lv (lv' := [(0, vI i), (1, vI n), (2, .null)]) [0, 1, 2] rfl ?_
  refine jx_iload_n E 0 dJ3_checkIndex_8e157_0 rfl ?_
  refine jx_if_lt (tgt := 9) E dJ3_checkIndex_8e157_1 (by decide) (fun c1 => ?_) (fun c1 => ?_)
  · exfalso; omega
  refine jx_iload_n E 0 dJ3_checkIndex_8e157_4 rfl ?_
  refine jx_iload_n E 1 dJ3_checkIndex_8e157_5 rfl ?_
  refine jx_icmp_lt (tgt := 16) E dJ3_checkIndex_8e157_6 (by decide) (fun c2 => ?_) (fun c2 => ?_)
  · refine jx_iload_n E 0 dJ3_checkIndex_8e157_16 rfl ?_
    exact jx_iret E hr dJ3_checkIndex_8e157_17 rfl rfl
  · exfalso; omega
set_option maxHeartbeats 4000000 in
theorem c_J3_checkIndex_8e157_r (l : Launch) (G : GT) (ws : va_W) {i n : Int} {t : Nat}  (h : 0 ≤ i ∧ i < n) (hn : n ≤ 2147483647) : CtI l G yJ3_checkIndex_8e157 cJ3_checkIndex_8e157 3 (some .int) 1 [vI i, vI n, .ref t] ws i ws := by
  refine CtI.of (by decide) (Nat.le_of_ble_eq_true rfl) ?_
  intro p e s m args below meth c A E hr
  refine jx_lv (lv' := [(0, vI i), (1, vI n), (2, .ref t)]) [0, 1, 2] rfl ?_
  refine jx_iload_n E 0 dJ3_checkIndex_8e157_0 rfl ?_
  refine jx_if_lt (tgt := 9) E dJ3_checkIndex_8e157_1 (by decide) (fun c1 => ?_) (fun c1 => ?_)
  · exfalso; omega
  refine jx_iload_n E 0 dJ3_checkIndex_8e157_4 rfl ?_
  refine jx_iload_n E 1 dJ3_checkIndex_8e157_5 rfl ?_
  refine jx_icmp_lt (tgt := 16) E dJ3_checkIndex_8e157_6 (by decide) (fun c2 => ?_) (fun c2 => ?_)
  · refine jx_iload_n E 0 dJ3_checkIndex_8e157_16 rfl ?_
    exact jx_iret E hr dJ3_checkIndex_8e157_17 rfl rfl
  · exfalso; omega
set_option maxHeartbeats 4000000 in
theorem c_J0_checkIndex_df160 (l : Launch) (G : GT) (ws : va_W) {i n : Int} (h : 0 ≤ i ∧ i < n) (hn : n ≤ 2147483647) : CtV l G yJ0_checkIndex_df160 cJ0_checkIndex_df160 2 none 2 [vI i, vI n] ws ws := by
  refine CtV.of (by decide) (Nat.le_of_ble_eq_true rfl) ?_
  intro p e s m args below meth c A E hr
  refine jx_lv (lv' := [(0, vI i), (1, vI n)]) [0, 1] rfl ?_
  refine jx_iload_n E 0 dJ0_checkIndex_df160_0 rfl ?_
  refine jx_iload_n E 1 dJ0_checkIndex_df160_1 rfl ?_
  refine jx_getsq E dJ0_checkIndex_df160_2 ?_ (fun t => ?_)
  · refine jx_callSi E [vI i, vI n, .null] [] (c_J3_checkIndex_8e157_n l G ws h hn) mb_J3_checkIndex_8e157 ms_J3_checkIndex_8e157 wl_J0_1059 dJ0_checkIndex_df160_5 ?_
    refine jx_pop E dJ0_checkIndex_df160_8 ?_
    exact jx_vret E hr dJ0_checkIndex_df160_9 rfl
  · refine jx_callSi E [vI i, vI n, .ref t] [] (c_J3_checkIndex_8e157_r l G ws h hn) mb_J3_checkIndex_8e157 ms_J3_checkIndex_8e157 wl_J0_1059 dJ0_checkIndex_df160_5 ?_
    refine jx_pop E dJ0_checkIndex_df160_8 ?_
    exact jx_vret E hr dJ0_checkIndex_df160_9 rfl
set_option maxHeartbeats 4000000 in
theorem c_J1_charAt_3b067 (l : Launch) (G : GT) (ws : va_W) {i : Nat} {k : Int} (hi : i < 13) (h : 0 ≤ k ∧ k < lenW i) : CtI l G yJ1_charAt_3b067 cJ1_charAt_3b067 2 (some .char) 3 [.ref (G.2.2 (20 + i)), vI k] ws (swc i k.toNat) ws := by
  refine CtI.of (by decide) (Nat.le_of_ble_eq_true rfl) ?_
  intro p e s m args below meth c A E hr
  refine jx_lv (lv' := [(0, .ref (G.2.2 (20 + i))), (1, vI k)]) [0, 1] rfl ?_
  have hl6 := (nm_len i hi).1
  have hk6 : k < ((sw_len.getD i 0 : Nat) : Int) := h.2
  have hok := swc_ok i hi k.toNat (by omega) (by omega)
  have hlw : lenW i ≤ 6 := by unfold lenW; omega
  refine jx_iload_n E 1 dJ1_charAt_3b067_0 rfl ?_
  refine jx_aload_n E 0 dJ1_charAt_3b067_1 rfl ?_
  refine jx_slen E i hi dJ1_charAt_3b067_2 ?_
  refine jx_callSv E [vI k, vI (lenW i)] [] (c_J0_checkIndex_df160 l G ws h (by omega)) mb_J0_checkIndex_df160 ms_J0_checkIndex_df160 wl_J1_9 dJ1_charAt_3b067_3 ?_
  refine jx_aload_n E 0 dJ1_charAt_3b067_6 rfl ?_
  refine jx_iload_n E 1 dJ1_charAt_3b067_7 rfl ?_
  refine jx_sbal E i hi h.1 h.2 (by omega) dJ1_charAt_3b067_8 ?_
  refine jx_sipush E dJ1_charAt_3b067_9 ?_
  refine jx_iand E (z := swc i k.toNat) dJ1_charAt_3b067_12 hok.1.1 ?_
  refine jx_i2c E (z := swc i k.toNat) dJ1_charAt_3b067_13 hok.1.2.1 ?_
  exact jx_nret E hr dJ1_charAt_3b067_14 rfl rfl (congrArg Value.int hok.1.2.2)
set_option maxHeartbeats 4000000 in
theorem c_J0_isLatin1_aae02 (l : Launch) (G : GT) (ws : va_W) {i : Nat} (hi : i < 13) : CtI l G yJ0_isLatin1_aae02 cJ0_isLatin1_aae02 1 (some .boolean) 1 [.ref (G.2.2 (2 + i))] ws 1 ws := by
  refine CtI.of (by decide) (Nat.le_of_ble_eq_true rfl) ?_
  intro p e s m args below meth c A E hr
  refine jx_lv (lv' := [(0, .ref (G.2.2 (2 + i)))]) [0] rfl ?_
  refine jx_getsc E dJ0_isLatin1_aae02_0 ?_
  refine jx_if_eq (tgt := 17) E dJ0_isLatin1_aae02_3 (by decide) (fun c1 => ?_) (fun c1 => ?_)
  · exact absurd c1 (by decide)
  refine jx_aload_n E 0 dJ0_isLatin1_aae02_6 rfl ?_
  refine jx_scod E i hi dJ0_isLatin1_aae02_7 ?_
  refine jx_if_ne (tgt := 17) E dJ0_isLatin1_aae02_10 (by decide) (fun c2 => ?_) (fun c2 => ?_)
  · exact absurd c2 (by decide)
  refine jx_iconst E dJ0_isLatin1_aae02_13 ?_
  refine jx_goto (tgt := 18) E dJ0_isLatin1_aae02_14 (by decide) ?_
  exact jx_zret E hr dJ0_isLatin1_aae02_18 rfl rfl (Or.inr rfl)
set_option maxHeartbeats 4000000 in
theorem c_J0_coder_7d493 (l : Launch) (G : GT) (ws : va_W) {i : Nat} (hi : i < 13) : CtI l G yJ0_coder_7d493 cJ0_coder_7d493 1 (some .byte) 1 [.ref (G.2.2 (2 + i))] ws 0 ws := by
  refine CtI.of (by decide) (Nat.le_of_ble_eq_true rfl) ?_
  intro p e s m args below meth c A E hr
  refine jx_lv (lv' := [(0, .ref (G.2.2 (2 + i)))]) [0] rfl ?_
  refine jx_getsc E dJ0_coder_7d493_0 ?_
  refine jx_if_eq (tgt := 13) E dJ0_coder_7d493_3 (by decide) (fun c1 => ?_) (fun c1 => ?_)
  · exact absurd c1 (by decide)
  refine jx_aload_n E 0 dJ0_coder_7d493_6 rfl ?_
  refine jx_scod E i hi dJ0_coder_7d493_7 ?_
  refine jx_goto (tgt := 14) E dJ0_coder_7d493_10 (by decide) ?_
  exact jx_nret E hr dJ0_coder_7d493_14 rfl rfl rfl
theorem shr0 : ∀ n : Nat, n < 7 → iI (n : Int) >>> (iI 0 &&& 31) = iI (n : Int) := by decide +kernel
set_option maxHeartbeats 4000000 in
theorem c_J0_length_8abf5 (l : Launch) (G : GT) (ws : va_W) {i : Nat} (hi : i < 13) : CtI l G yJ0_length_8abf5 cJ0_length_8abf5 1 (some .int) 2 [.ref (G.2.2 (2 + i))] ws (lenW i) ws := by
  refine CtI.of (by decide) (Nat.le_of_ble_eq_true rfl) ?_
  intro p e s m args below meth c A E hr
  refine jx_lv (lv' := [(0, .ref (G.2.2 (2 + i)))]) [0] rfl ?_
  have hl6 := (nm_len i hi).1
  refine jx_aload_n E 0 dJ0_length_8abf5_0 rfl ?_
  refine jx_sval E i hi dJ0_length_8abf5_1 ?_
  refine jx_slen E i hi dJ0_length_8abf5_4 ?_
  refine jx_aload_n E 0 dJ0_length_8abf5_5 rfl ?_
  refine jx_callKi E i hi rfl [] [vI (lenW i)] (c_J0_coder_7d493 l G ws hi) mb_J0_coder_7d493 mv_J0_coder_7d493 wl_J0_335 dJ0_length_8abf5_6 ?_
  refine jx_ishr E (z := lenW i) dJ0_length_8abf5_9 (shr0 _ (by omega)) ?_
  exact jx_iret E hr dJ0_length_8abf5_10 rfl rfl
set_option maxHeartbeats 4000000 in
theorem c_J0_charAt_5068e (l : Launch) (G : GT) (ws : va_W) {i : Nat} {k : Int} (hi : i < 13) (h : 0 ≤ k ∧ k < lenW i) : CtI l G yJ0_charAt_5068e cJ0_charAt_5068e 2 (some .char) 4 [.ref (G.2.2 (2 + i)), vI k] ws (swc i k.toNat) ws := by
  refine CtI.of (by decide) (Nat.le_of_ble_eq_true rfl) ?_
  intro p e s m args below meth c A E hr
  refine jx_lv (lv' := [(0, .ref (G.2.2 (2 + i))), (1, vI k)]) [0, 1] rfl ?_
  have hl6 := (nm_len i hi).1
  have hk6 : k < ((sw_len.getD i 0 : Nat) : Int) := h.2
  have hok := swc_ok i hi k.toNat (by omega) (by omega)
  refine jx_aload_n E 0 dJ0_charAt_5068e_0 rfl ?_
  refine jx_callKi E i hi rfl [] [] (c_J0_isLatin1_aae02 l G ws hi) mb_J0_isLatin1_aae02 mv_J0_isLatin1_aae02 wl_J0_492 dJ0_charAt_5068e_1 ?_
  refine jx_if_eq (tgt := 16) E dJ0_charAt_5068e_4 (by decide) (fun c1 => ?_) (fun c1 => ?_)
  · exact absurd c1 (by decide)
  refine jx_aload_n E 0 dJ0_charAt_5068e_7 rfl ?_
  refine jx_sval E i hi dJ0_charAt_5068e_8 ?_
  refine jx_iload_n E 1 dJ0_charAt_5068e_11 rfl ?_
  refine jx_callSi E [.ref (G.2.2 (20 + i)), vI k] [] (c_J1_charAt_3b067 l G ws hi h) mb_J1_charAt_3b067 ms_J1_charAt_3b067 wl_J0_495 dJ0_charAt_5068e_12 ?_
  exact jx_nret E hr dJ0_charAt_5068e_15 rfl rfl (congrArg Value.int hok.1.2.2)
