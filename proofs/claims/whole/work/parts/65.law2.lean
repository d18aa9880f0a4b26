/-! the law: its loop -/
set_option maxHeartbeats 4000000 in
theorem law_loop {p : Program} {l : Launch} {e : Env} {s : State} {m : MethodId} {below : List Frame} {meth : Method} {c : Code} {G : GT} {b0 L : Nat} {xs : Nat → Int32} (E : CT p s m #[Value.ref b0] meth c 4 G (fun q => s.heap.size ≤ q) code RL) (hr : meth.sig.returnType = ret) (hX : va_X b0 L xs s s.heap) (hbl : b0 < s.heap.size) (hL : L ≤ 3072) (a b : Nat → Nat) : ∀ (n : Nat) (x y : MS) (i : Int), 0 ≤ i → i ≤ 3100 → (L : Int) - i < 6 * n → TWO x y → JX p l e room_1 s m #[Value.ref b0] below meth c 4 G (fun q => s.heap.size ≤ q) 59 1028 (lw_Z below #[Value.ref b0] s) (wsX G a x ++ wsM G b y) 18 [(3, vI i), (2, .ref (b 0)), (1, .ref (a 0)), (0, .ref b0)] [] := by
  have hbA : ¬ (fun q : Nat => s.heap.size ≤ q) b0 := Nat.not_le.mpr hbl
  intro n
  induction n with
  | zero =>
    intro x y i h0 h1 h2 h
    refine jx_iload_n E 0 dL_law_18 rfl ?_
    refine jx_aload_n E 3 dL_law_19 rfl ?_
    refine jx_slenS E hX hbl hbA dL_law_20 ?_
    refine jx_bipush E dL_law_21 ?_
    refine jx_isub E dL_law_23 ?_
    refine jx_icmp_gt (tgt := 1217) E dL_law_24 (by decide) (fun c1 => ?_) (fun c1 => ?_)
    · refine jx_iconst E dL_law_1217 ?_
      exact jx_end E.1 E.2.1 hr E.2.2.2.2.2.2.2.2 dL_law_1218
    · exfalso; omega
  | succ n ih =>
    intro x y i h0 h1 h2 h
    refine jx_iload_n E 0 dL_law_18 rfl ?_
    refine jx_aload_n E 3 dL_law_19 rfl ?_
    refine jx_slenS E hX hbl hbA dL_law_20 ?_
    refine jx_bipush E dL_law_21 ?_
    refine jx_isub E dL_law_23 ?_
    refine jx_icmp_gt (tgt := 1217) E dL_law_24 (by decide) (fun c1 => ?_) (fun c1 => ?_)
    · refine jx_iconst E dL_law_1217 ?_
      exact jx_end E.1 E.2.1 hr E.2.2.2.2.2.2.2.2 dL_law_1218
    have k : ∀ x' y' : MS, TWO x' y' → JX p l e room_1 s m #[Value.ref b0] below meth c 4 G (fun q => s.heap.size ≤ q) 59 1028 (lw_Z below #[Value.ref b0] s) (wsX G a x' ++ wsM G b y') 1211 [(3, vI i), (2, .ref (b 0)), (1, .ref (a 0)), (0, .ref b0)] [] := by
      intro x' y' h'
      refine jx_iinc E 0 dL_law_1211 rfl (by decide) [(3, vI (i + 6)), (2, .ref (b 0)), (1, .ref (a 0)), (0, .ref b0)] rfl ?_
      refine jx_goto (tgt := 18) E dL_law_1214 (by decide) ?_
      exact ih x' y' (i + 6) (by omega) (by omega) (by omega) h'
    refine jx_aload_n E 3 dL_law_27 rfl ?_
    refine jx_iload_n E 0 dL_law_28 rfl ?_
    refine jx_sld E hX hbl hbA dL_law_29 ?_
    refine jx_bipush E dL_law_30 ?_
    refine jx_iand E (z := (iI (sc xs i) &&& iI 63).toInt) dL_law_32 (iI_of _) ?_
    have hz := iI_inR (iI (sc xs i) &&& iI 63)
    generalize (iI (sc xs i) &&& iI 63).toInt = z at hz ⊢
    unfold inR at hz
    rcases (show z = 0 ∨ z = 1 ∨ z = 2 ∨ z = 3 ∨ z = 4 ∨ z = 5 ∨ z = 6 ∨ z = 7 ∨ z = 8 ∨ z = 9 ∨ z = 10 ∨ z = 11 ∨ z = 12 ∨ z = 13 ∨ z = 14 ∨ z = 15 ∨ z = 16 ∨ z = 17 ∨ z = 18 ∨ z = 19 ∨ z = 20 ∨ z = 21 ∨ z = 22 ∨ z = 23 ∨ z = 24 ∨ z = 25 ∨ z = 26 ∨ z = 27 ∨ z = 28 ∨ z = 29 ∨ z = 30 ∨ z = 31 ∨ z = 32 ∨ z = 33 ∨ z = 34 ∨ z = 35 ∨ (z < 0 ∨ 35 < z) by omega) with c2 | c2 | c2 | c2 | c2 | c2 | c2 | c2 | c2 | c2 | c2 | c2 | c2 | c2 | c2 | c2 | c2 | c2 | c2 | c2 | c2 | c2 | c2 | c2 | c2 | c2 | c2 | c2 | c2 | c2 | c2 | c2 | c2 | c2 | c2 | c2 | c2
    · refine jx_tabIn (tgt := 192) (off := 159) E 0 dL_law_33 c2 (by unfold inR; decide) (by rfl) (by decide) ?_
      exact law_0 E hX hbl hbA hL h h0 (by omega) k
    · refine jx_tabIn (tgt := 225) (off := 192) E 1 dL_law_33 c2 (by unfold inR; decide) (by rfl) (by decide) ?_
      exact law_1 E hX hbl hbA hL h h0 (by omega) k
    · refine jx_tabIn (tgt := 268) (off := 235) E 2 dL_law_33 c2 (by unfold inR; decide) (by rfl) (by decide) ?_
      exact law_2 E hX hbl hbA hL h h0 (by omega) k
    · refine jx_tabIn (tgt := 291) (off := 258) E 3 dL_law_33 c2 (by unfold inR; decide) (by rfl) (by decide) ?_
      exact law_3 E hX hbl hbA hL h h0 (by omega) k
    · refine jx_tabIn (tgt := 314) (off := 281) E 4 dL_law_33 c2 (by unfold inR; decide) (by rfl) (by decide) ?_
      exact law_4 E hX hbl hbA hL h h0 (by omega) k
    · refine jx_tabIn (tgt := 347) (off := 314) E 5 dL_law_33 c2 (by unfold inR; decide) (by rfl) (by decide) ?_
      exact law_5 E hX hbl hbA hL h h0 (by omega) k
    · refine jx_tabIn (tgt := 390) (off := 357) E 6 dL_law_33 c2 (by unfold inR; decide) (by rfl) (by decide) ?_
      exact law_6 E hX hbl hbA hL h h0 (by omega) k
    · refine jx_tabIn (tgt := 423) (off := 390) E 7 dL_law_33 c2 (by unfold inR; decide) (by rfl) (by decide) ?_
      exact law_7 E hX hbl hbA hL h h0 (by omega) k
    · refine jx_tabIn (tgt := 456) (off := 423) E 8 dL_law_33 c2 (by unfold inR; decide) (by rfl) (by decide) ?_
      exact law_8 E hX hbl hbA hL h h0 (by omega) k
    · refine jx_tabIn (tgt := 469) (off := 436) E 9 dL_law_33 c2 (by unfold inR; decide) (by rfl) (by decide) ?_
      exact law_9 E hX hbl hbA hL h h0 (by omega) k
    · refine jx_tabIn (tgt := 492) (off := 459) E 10 dL_law_33 c2 (by unfold inR; decide) (by rfl) (by decide) ?_
      exact law_10 E hX hbl hbA hL h h0 (by omega) k
    · refine jx_tabIn (tgt := 525) (off := 492) E 11 dL_law_33 c2 (by unfold inR; decide) (by rfl) (by decide) ?_
      exact law_11 E hX hbl hbA hL h h0 (by omega) k
    · refine jx_tabIn (tgt := 568) (off := 535) E 12 dL_law_33 c2 (by unfold inR; decide) (by rfl) (by decide) ?_
      exact law_12 E hX hbl hbA hL h h0 (by omega) k
    · refine jx_tabIn (tgt := 591) (off := 558) E 13 dL_law_33 c2 (by unfold inR; decide) (by rfl) (by decide) ?_
      exact law_13 E hX hbl hbA hL h h0 (by omega) k
    · refine jx_tabIn (tgt := 614) (off := 581) E 14 dL_law_33 c2 (by unfold inR; decide) (by rfl) (by decide) ?_
      exact law_14 E hX hbl hbA hL h h0 (by omega) k
    · refine jx_tabIn (tgt := 627) (off := 594) E 15 dL_law_33 c2 (by unfold inR; decide) (by rfl) (by decide) ?_
      exact law_15 E hX hbl hbA hL h h0 (by omega) k
    · refine jx_tabIn (tgt := 650) (off := 617) E 16 dL_law_33 c2 (by unfold inR; decide) (by rfl) (by decide) ?_
      exact law_16 E hX hbl hbA hL h h0 (by omega) k
    · refine jx_tabIn (tgt := 683) (off := 650) E 17 dL_law_33 c2 (by unfold inR; decide) (by rfl) (by decide) ?_
      exact law_17 E hX hbl hbA hL h h0 (by omega) k
    · refine jx_tabIn (tgt := 716) (off := 683) E 18 dL_law_33 c2 (by unfold inR; decide) (by rfl) (by decide) ?_
      exact law_18 E hX hbl hbA hL h h0 (by omega) k
    · refine jx_tabIn (tgt := 739) (off := 706) E 19 dL_law_33 c2 (by unfold inR; decide) (by rfl) (by decide) ?_
      exact law_19 E hX hbl hbA hL h h0 (by omega) k
    · refine jx_tabIn (tgt := 762) (off := 729) E 20 dL_law_33 c2 (by unfold inR; decide) (by rfl) (by decide) ?_
      exact law_20 E hX hbl hbA hL h h0 (by omega) k
    · refine jx_tabIn (tgt := 785) (off := 752) E 21 dL_law_33 c2 (by unfold inR; decide) (by rfl) (by decide) ?_
      exact law_21 E hX hbl hbA hL h h0 (by omega) k
    · refine jx_tabIn (tgt := 808) (off := 775) E 22 dL_law_33 c2 (by unfold inR; decide) (by rfl) (by decide) ?_
      exact law_22 E hX hbl hbA hL h h0 (by omega) k
    · refine jx_tabIn (tgt := 841) (off := 808) E 23 dL_law_33 c2 (by unfold inR; decide) (by rfl) (by decide) ?_
      exact law_23 E hX hbl hbA hL h h0 (by omega) k
    · refine jx_tabIn (tgt := 854) (off := 821) E 24 dL_law_33 c2 (by unfold inR; decide) (by rfl) (by decide) ?_
      exact law_24 E hX hbl hbA hL h h0 (by omega) k
    · refine jx_tabIn (tgt := 867) (off := 834) E 25 dL_law_33 c2 (by unfold inR; decide) (by rfl) (by decide) ?_
      exact law_25 E hX hbl hbA hL h h0 (by omega) k
    · refine jx_tabIn (tgt := 910) (off := 877) E 26 dL_law_33 c2 (by unfold inR; decide) (by rfl) (by decide) ?_
      exact law_26 E hX hbl hbA hL h h0 (by omega) k
    · refine jx_tabIn (tgt := 984) (off := 951) E 27 dL_law_33 c2 (by unfold inR; decide) (by rfl) (by decide) ?_
      exact law_27 E hX hbl hbA hL h h0 (by omega) k
    · refine jx_tabIn (tgt := 1047) (off := 1014) E 28 dL_law_33 c2 (by unfold inR; decide) (by rfl) (by decide) ?_
      exact law_28 E hX hbl hbA hL h h0 (by omega) k
    · refine jx_tabIn (tgt := 1070) (off := 1037) E 29 dL_law_33 c2 (by unfold inR; decide) (by rfl) (by decide) ?_
      exact law_29 E hX hbl hbA hL h h0 (by omega) k
    · refine jx_tabIn (tgt := 1093) (off := 1060) E 30 dL_law_33 c2 (by unfold inR; decide) (by rfl) (by decide) ?_
      exact law_30 E hX hbl hbA hL h h0 (by omega) k
    · refine jx_tabIn (tgt := 1126) (off := 1093) E 31 dL_law_33 c2 (by unfold inR; decide) (by rfl) (by decide) ?_
      exact law_31 E hX hbl hbA hL h h0 (by omega) k
    · refine jx_tabIn (tgt := 1139) (off := 1106) E 32 dL_law_33 c2 (by unfold inR; decide) (by rfl) (by decide) ?_
      exact law_32 E hX hbl hbA hL h h0 (by omega) k
    · refine jx_tabIn (tgt := 1152) (off := 1119) E 33 dL_law_33 c2 (by unfold inR; decide) (by rfl) (by decide) ?_
      exact law_33 E hX hbl hbA hL h h0 (by omega) k
    · refine jx_tabIn (tgt := 1165) (off := 1132) E 34 dL_law_33 c2 (by unfold inR; decide) (by rfl) (by decide) ?_
      exact law_34 E hX hbl hbA hL h h0 (by omega) k
    · refine jx_tabIn (tgt := 1188) (off := 1155) E 35 dL_law_33 c2 (by unfold inR; decide) (by rfl) (by decide) ?_
      exact law_35 E hX hbl hbA hL h h0 (by omega) k
    · refine jx_tabOut (tgt := 1211) E dL_law_33 c2 (by decide) ?_
      exact k x y h
