/-! 41.xa: laid by the walker out of specXA -/
theorem jx_getska {p : Program} {l : Launch} {e : Env} {R : Room} {s : State} {m : MethodId} {args : Array Value} {below : List Frame} {meth : Method} {c : Code} {nL : Nat} {G : GT} {A : Nat → Prop} {kc ks : Nat} {Q : State → Prop} {ws : va_W} {pc : Nat} {lv : List (Nat × Value)} {st : List Value} {cc : ByteArray} {own : String} (E : CT p s m args meth c nL G A cc own) {i : Nat} (hw : Cond.fieldLink own i "NamedFountains" "KIND_ABOVE" "[I" ∈ TB) (hd : decode cc pc = .ok (.getstatic i, 3)) (k : JX p l e R s m args below meth c nL G A kc ks Q ws (pc + 3) lv (.ref (G.2.2 0) :: st)) : JX p l e R s m args below meth c nL G A kc ks Q ws pc lv st := fun hD H locs ls hP hS hl => va_gets E.1 E.2.1 E.2.2.2.2.2.2.2.1.1 hS E.2.2.2.1 (E.2.2.2.2.1 _ hw) (fun _ h => h) hd (k hD H locs ls hP hS hl)
theorem jx_tka {p : Program} {l : Launch} {e : Env} {R : Room} {s : State} {m : MethodId} {args : Array Value} {below : List Frame} {meth : Method} {c : Code} {nL : Nat} {G : GT} {A : Nat → Prop} {kc ks : Nat} {Q : State → Prop} {ws : va_W} {pc : Nat} {lv : List (Nat × Value)} {st : List Value} {cc : ByteArray} {own : String} (E : CT p s m args meth c nL G A cc own) {i v : Int} (hv : ka_row.getD i.toNat 0 = v) (h0 : 0 ≤ i) (h1 : i < 6) (hd : decode cc pc = .ok (.iaload, 1)) (k : JX p l e R s m args below meth c nL G A kc ks Q ws (pc + 1) lv (vI v :: st)) : JX p l e R s m args below meth c nL G A kc ks Q ws pc lv (vI i :: .ref (G.2.2 0) :: st) := fun hD H locs ls hP hS hl => va_ti E.1 E.2.1 E.2.2.2.2.2.2.2.1.2.1 hS (iI_in h0 (by omega) (by decide)) (v := vI v) (by rw [iI_cl h0 (by omega), hv]) hd (k hD H locs ls hP hS hl)
theorem jx_getsnm {p : Program} {l : Launch} {e : Env} {R : Room} {s : State} {m : MethodId} {args : Array Value} {below : List Frame} {meth : Method} {c : Code} {nL : Nat} {G : GT} {A : Nat → Prop} {kc ks : Nat} {Q : State → Prop} {ws : va_W} {pc : Nat} {lv : List (Nat × Value)} {st : List Value} {cc : ByteArray} {own : String} (E : CT p s m args meth c nL G A cc own) {i : Nat} (hw : Cond.fieldLink own i "NamedFountainsModel" "NAMES" "[I" ∈ TB) (hd : decode cc pc = .ok (.getstatic i, 3)) (k : JX p l e R s m args below meth c nL G A kc ks Q ws (pc + 3) lv (.ref (G.2.2 1) :: st)) : JX p l e R s m args below meth c nL G A kc ks Q ws pc lv st := fun hD H locs ls hP hS hl => va_gets E.1 E.2.1 E.2.2.2.2.2.2.2.1.2.2.1 hS E.2.2.2.1 (E.2.2.2.2.1 _ hw) (fun _ h => h) hd (k hD H locs ls hP hS hl)
theorem jx_tnm {p : Program} {l : Launch} {e : Env} {R : Room} {s : State} {m : MethodId} {args : Array Value} {below : List Frame} {meth : Method} {c : Code} {nL : Nat} {G : GT} {A : Nat → Prop} {kc ks : Nat} {Q : State → Prop} {ws : va_W} {pc : Nat} {lv : List (Nat × Value)} {st : List Value} {cc : ByteArray} {own : String} (E : CT p s m args meth c nL G A cc own) {i v : Int} (hv : nm_row.getD i.toNat 0 = v) (h0 : 0 ≤ i) (h1 : i < 91) (hd : decode cc pc = .ok (.iaload, 1)) (k : JX p l e R s m args below meth c nL G A kc ks Q ws (pc + 1) lv (vI v :: st)) : JX p l e R s m args below meth c nL G A kc ks Q ws pc lv (vI i :: .ref (G.2.2 1) :: st) := fun hD H locs ls hP hS hl => va_ti E.1 E.2.1 E.2.2.2.2.2.2.2.1.2.2.2.1 hS (iI_in h0 (by omega) (by decide)) (v := vI v) (by rw [iI_cl h0 (by omega), hv]) hd (k hD H locs ls hP hS hl)
set_option maxHeartbeats 4000000 in
theorem c_X5_isUnder_k0 (l : Launch) (G : GT) (ws : va_W) {ab : Int} (h1 : 0 ≤ ab ∧ ab ≤ 5) : CtI l G yX5_isUnder cX5_isUnder 4 (some .boolean) 1 [vI 0, vI ab] ws (if ab = 0 ∨ ab = (0 : Int) ∨ (ab = 1 ∧ (0 : Int) = 4) ∨ (ab = 3 ∧ (0 : Int) = 5) then 1 else 0) ws := by
  refine CtI.of (by decide) (Nat.le_of_ble_eq_true rfl) ?_
  intro p e s m args below meth c A E hr
  refine jx_lv (lv' := [(0, vI 0), (1, vI ab)]) [0, 1] rfl ?_
  refine jx_iload_n E 0 dX5_isUnder_0 rfl ?_
  refine jx_istore_n E dX5_isUnder_1 (by decide) [(2, vI 0), (0, vI 0), (1, vI ab)] rfl ?_
  refine jx_iconst E dX5_isUnder_2 ?_
  refine jx_istore_n E dX5_isUnder_3 (by decide) [(3, vI 0), (2, vI 0), (0, vI 0), (1, vI ab)] rfl ?_
  refine jx_iload_n E 0 dX5_isUnder_4 rfl ?_
  refine jx_bipush E dX5_isUnder_5 ?_
  refine jx_icmp_ge (tgt := 39) E dX5_isUnder_7 (by decide) (fun c1 => ?_) (fun c1 => ?_)
  · skip
    exact absurd c1 (by decide)
  · skip
    refine jx_iload_n E 1 dX5_isUnder_10 rfl ?_
    refine jx_if_lt (tgt := 39) E dX5_isUnder_11 (by decide) (fun c2 => ?_) (fun c2 => ?_)
    · skip
      exact absurd c2 (by decide)
    · skip
      refine jx_iload_n E 1 dX5_isUnder_14 rfl ?_
      refine jx_bipush E dX5_isUnder_15 ?_
      refine jx_icmp_ge (tgt := 39) E dX5_isUnder_17 (by decide) (fun c3 => ?_) (fun c3 => ?_)
      · skip
        exact absurd c3 (by decide)
      · skip
        refine jx_iload_n E 1 dX5_isUnder_20 rfl ?_
        refine jx_iload_n E 3 dX5_isUnder_21 rfl ?_
        refine jx_icmp_ne (tgt := 27) E dX5_isUnder_22 (by decide) (fun c4 => ?_) (fun c4 => ?_)
        · skip
          refine jx_getska E wf_X5_249 dX5_isUnder_27 ?_
          refine jx_iload_n E 1 dX5_isUnder_30 rfl ?_
          refine jx_tka E (v := (-1)) (by first | rfl | decide) (by omega) (by omega) dX5_isUnder_31 ?_
          refine jx_istore_n E dX5_isUnder_32 (by decide) [(2, vI (-1)), (3, vI 0), (0, vI 0), (1, vI ab)] rfl ?_
          refine jx_iinc E 1 dX5_isUnder_33 rfl (by decide) [(3, vI (0 + 1)), (2, vI (-1)), (0, vI 0), (1, vI ab)] rfl ?_
          refine jx_goto (tgt := 4) E dX5_isUnder_36 (by decide) ?_
          refine jx_iload_n E 0 dX5_isUnder_4 rfl ?_
          refine jx_bipush E dX5_isUnder_5 ?_
          refine jx_icmp_ge (tgt := 39) E dX5_isUnder_7 (by decide) (fun c5 => ?_) (fun c5 => ?_)
          · skip
            refine jx_iconst E dX5_isUnder_39 ?_
            exact jx_zret E hr dX5_isUnder_40 (by omega) (by first | rfl | (congr 1; done)) (by first | exact Or.inl rfl | exact Or.inr rfl | omega)
          · skip
            refine jx_iload_n E 1 dX5_isUnder_10 rfl ?_
            refine jx_if_lt (tgt := 39) E dX5_isUnder_11 (by decide) (fun c6 => ?_) (fun c6 => ?_)
            · skip
              refine jx_iconst E dX5_isUnder_39 ?_
              exact jx_zret E hr dX5_isUnder_40 (by omega) (by first | rfl | (congr 1; done)) (by first | exact Or.inl rfl | exact Or.inr rfl | omega)
            · skip
              exact absurd c6 (by decide)
        · skip
          refine jx_iconst E dX5_isUnder_25 ?_
          exact jx_zret E hr dX5_isUnder_26 (by omega) (by first | rfl | (congr 1; done)) (by first | exact Or.inl rfl | exact Or.inr rfl | omega)
set_option maxHeartbeats 4000000 in
theorem c_X5_isUnder_k1 (l : Launch) (G : GT) (ws : va_W) {ab : Int} (h1 : 0 ≤ ab ∧ ab ≤ 5) : CtI l G yX5_isUnder cX5_isUnder 4 (some .boolean) 1 [vI 1, vI ab] ws (if ab = 0 ∨ ab = (1 : Int) ∨ (ab = 1 ∧ (1 : Int) = 4) ∨ (ab = 3 ∧ (1 : Int) = 5) then 1 else 0) ws := by
  refine CtI.of (by decide) (Nat.le_of_ble_eq_true rfl) ?_
  intro p e s m args below meth c A E hr
  refine jx_lv (lv' := [(0, vI 1), (1, vI ab)]) [0, 1] rfl ?_
  refine jx_iload_n E 0 dX5_isUnder_0 rfl ?_
  refine jx_istore_n E dX5_isUnder_1 (by decide) [(2, vI 1), (0, vI 1), (1, vI ab)] rfl ?_
  refine jx_iconst E dX5_isUnder_2 ?_
  refine jx_istore_n E dX5_isUnder_3 (by decide) [(3, vI 0), (2, vI 1), (0, vI 1), (1, vI ab)] rfl ?_
  refine jx_iload_n E 0 dX5_isUnder_4 rfl ?_
  refine jx_bipush E dX5_isUnder_5 ?_
  refine jx_icmp_ge (tgt := 39) E dX5_isUnder_7 (by decide) (fun c1 => ?_) (fun c1 => ?_)
  · skip
    exact absurd c1 (by decide)
  · skip
    refine jx_iload_n E 1 dX5_isUnder_10 rfl ?_
    refine jx_if_lt (tgt := 39) E dX5_isUnder_11 (by decide) (fun c2 => ?_) (fun c2 => ?_)
    · skip
      exact absurd c2 (by decide)
    · skip
      refine jx_iload_n E 1 dX5_isUnder_14 rfl ?_
      refine jx_bipush E dX5_isUnder_15 ?_
      refine jx_icmp_ge (tgt := 39) E dX5_isUnder_17 (by decide) (fun c3 => ?_) (fun c3 => ?_)
      · skip
        exact absurd c3 (by decide)
      · skip
        refine jx_iload_n E 1 dX5_isUnder_20 rfl ?_
        refine jx_iload_n E 3 dX5_isUnder_21 rfl ?_
        refine jx_icmp_ne (tgt := 27) E dX5_isUnder_22 (by decide) (fun c4 => ?_) (fun c4 => ?_)
        · skip
          refine jx_getska E wf_X5_249 dX5_isUnder_27 ?_
          refine jx_iload_n E 1 dX5_isUnder_30 rfl ?_
          refine jx_tka E (v := 0) (by first | rfl | decide) (by omega) (by omega) dX5_isUnder_31 ?_
          refine jx_istore_n E dX5_isUnder_32 (by decide) [(2, vI 0), (3, vI 0), (0, vI 1), (1, vI ab)] rfl ?_
          refine jx_iinc E 1 dX5_isUnder_33 rfl (by decide) [(3, vI (0 + 1)), (2, vI 0), (0, vI 1), (1, vI ab)] rfl ?_
          refine jx_goto (tgt := 4) E dX5_isUnder_36 (by decide) ?_
          refine jx_iload_n E 0 dX5_isUnder_4 rfl ?_
          refine jx_bipush E dX5_isUnder_5 ?_
          refine jx_icmp_ge (tgt := 39) E dX5_isUnder_7 (by decide) (fun c5 => ?_) (fun c5 => ?_)
          · skip
            refine jx_iconst E dX5_isUnder_39 ?_
            exact jx_zret E hr dX5_isUnder_40 (by omega) (by first | rfl | (congr 1; done)) (by first | exact Or.inl rfl | exact Or.inr rfl | omega)
          · skip
            refine jx_iload_n E 1 dX5_isUnder_10 rfl ?_
            refine jx_if_lt (tgt := 39) E dX5_isUnder_11 (by decide) (fun c6 => ?_) (fun c6 => ?_)
            · skip
              exact absurd c6 (by decide)
            · skip
              refine jx_iload_n E 1 dX5_isUnder_14 rfl ?_
              refine jx_bipush E dX5_isUnder_15 ?_
              refine jx_icmp_ge (tgt := 39) E dX5_isUnder_17 (by decide) (fun c7 => ?_) (fun c7 => ?_)
              · skip
                exact absurd c7 (by decide)
              · skip
                refine jx_iload_n E 1 dX5_isUnder_20 rfl ?_
                refine jx_iload_n E 3 dX5_isUnder_21 rfl ?_
                refine jx_icmp_ne (tgt := 27) E dX5_isUnder_22 (by decide) (fun c8 => ?_) (fun c8 => ?_)
                · skip
                  refine jx_getska E wf_X5_249 dX5_isUnder_27 ?_
                  refine jx_iload_n E 1 dX5_isUnder_30 rfl ?_
                  refine jx_tka E (v := (-1)) (by first | rfl | decide) (by omega) (by omega) dX5_isUnder_31 ?_
                  refine jx_istore_n E dX5_isUnder_32 (by decide) [(2, vI (-1)), (3, vI (0 + 1)), (0, vI 1), (1, vI ab)] rfl ?_
                  refine jx_iinc E 1 dX5_isUnder_33 rfl (by decide) [(3, vI (0 + 1 + 1)), (2, vI (-1)), (0, vI 1), (1, vI ab)] rfl ?_
                  refine jx_goto (tgt := 4) E dX5_isUnder_36 (by decide) ?_
                  refine jx_iload_n E 0 dX5_isUnder_4 rfl ?_
                  refine jx_bipush E dX5_isUnder_5 ?_
                  refine jx_icmp_ge (tgt := 39) E dX5_isUnder_7 (by decide) (fun c9 => ?_) (fun c9 => ?_)
                  · skip
                    refine jx_iconst E dX5_isUnder_39 ?_
                    exact jx_zret E hr dX5_isUnder_40 (by omega) (by first | rfl | (congr 1; done)) (by first | exact Or.inl rfl | exact Or.inr rfl | omega)
                  · skip
                    refine jx_iload_n E 1 dX5_isUnder_10 rfl ?_
                    refine jx_if_lt (tgt := 39) E dX5_isUnder_11 (by decide) (fun c10 => ?_) (fun c10 => ?_)
                    · skip
                      refine jx_iconst E dX5_isUnder_39 ?_
                      exact jx_zret E hr dX5_isUnder_40 (by omega) (by first | rfl | (congr 1; done)) (by first | exact Or.inl rfl | exact Or.inr rfl | omega)
                    · skip
                      exact absurd c10 (by decide)
                · skip
                  refine jx_iconst E dX5_isUnder_25 ?_
                  exact jx_zret E hr dX5_isUnder_26 (by omega) (by first | rfl | (congr 1; done)) (by first | exact Or.inl rfl | exact Or.inr rfl | omega)
        · skip
          refine jx_iconst E dX5_isUnder_25 ?_
          exact jx_zret E hr dX5_isUnder_26 (by omega) (by first | rfl | (congr 1; done)) (by first | exact Or.inl rfl | exact Or.inr rfl | omega)
set_option maxHeartbeats 4000000 in
theorem c_X5_isUnder_k2 (l : Launch) (G : GT) (ws : va_W) {ab : Int} (h1 : 0 ≤ ab ∧ ab ≤ 5) : CtI l G yX5_isUnder cX5_isUnder 4 (some .boolean) 1 [vI 2, vI ab] ws (if ab = 0 ∨ ab = (2 : Int) ∨ (ab = 1 ∧ (2 : Int) = 4) ∨ (ab = 3 ∧ (2 : Int) = 5) then 1 else 0) ws := by
  refine CtI.of (by decide) (Nat.le_of_ble_eq_true rfl) ?_
  intro p e s m args below meth c A E hr
  refine jx_lv (lv' := [(0, vI 2), (1, vI ab)]) [0, 1] rfl ?_
  refine jx_iload_n E 0 dX5_isUnder_0 rfl ?_
  refine jx_istore_n E dX5_isUnder_1 (by decide) [(2, vI 2), (0, vI 2), (1, vI ab)] rfl ?_
  refine jx_iconst E dX5_isUnder_2 ?_
  refine jx_istore_n E dX5_isUnder_3 (by decide) [(3, vI 0), (2, vI 2), (0, vI 2), (1, vI ab)] rfl ?_
  refine jx_iload_n E 0 dX5_isUnder_4 rfl ?_
  refine jx_bipush E dX5_isUnder_5 ?_
  refine jx_icmp_ge (tgt := 39) E dX5_isUnder_7 (by decide) (fun c1 => ?_) (fun c1 => ?_)
  · skip
    exact absurd c1 (by decide)
  · skip
    refine jx_iload_n E 1 dX5_isUnder_10 rfl ?_
    refine jx_if_lt (tgt := 39) E dX5_isUnder_11 (by decide) (fun c2 => ?_) (fun c2 => ?_)
    · skip
      exact absurd c2 (by decide)
    · skip
      refine jx_iload_n E 1 dX5_isUnder_14 rfl ?_
      refine jx_bipush E dX5_isUnder_15 ?_
      refine jx_icmp_ge (tgt := 39) E dX5_isUnder_17 (by decide) (fun c3 => ?_) (fun c3 => ?_)
      · skip
        exact absurd c3 (by decide)
      · skip
        refine jx_iload_n E 1 dX5_isUnder_20 rfl ?_
        refine jx_iload_n E 3 dX5_isUnder_21 rfl ?_
        refine jx_icmp_ne (tgt := 27) E dX5_isUnder_22 (by decide) (fun c4 => ?_) (fun c4 => ?_)
        · skip
          refine jx_getska E wf_X5_249 dX5_isUnder_27 ?_
          refine jx_iload_n E 1 dX5_isUnder_30 rfl ?_
          refine jx_tka E (v := 0) (by first | rfl | decide) (by omega) (by omega) dX5_isUnder_31 ?_
          refine jx_istore_n E dX5_isUnder_32 (by decide) [(2, vI 0), (3, vI 0), (0, vI 2), (1, vI ab)] rfl ?_
          refine jx_iinc E 1 dX5_isUnder_33 rfl (by decide) [(3, vI (0 + 1)), (2, vI 0), (0, vI 2), (1, vI ab)] rfl ?_
          refine jx_goto (tgt := 4) E dX5_isUnder_36 (by decide) ?_
          refine jx_iload_n E 0 dX5_isUnder_4 rfl ?_
          refine jx_bipush E dX5_isUnder_5 ?_
          refine jx_icmp_ge (tgt := 39) E dX5_isUnder_7 (by decide) (fun c5 => ?_) (fun c5 => ?_)
          · skip
            refine jx_iconst E dX5_isUnder_39 ?_
            exact jx_zret E hr dX5_isUnder_40 (by omega) (by first | rfl | (congr 1; done)) (by first | exact Or.inl rfl | exact Or.inr rfl | omega)
          · skip
            refine jx_iload_n E 1 dX5_isUnder_10 rfl ?_
            refine jx_if_lt (tgt := 39) E dX5_isUnder_11 (by decide) (fun c6 => ?_) (fun c6 => ?_)
            · skip
              exact absurd c6 (by decide)
            · skip
              refine jx_iload_n E 1 dX5_isUnder_14 rfl ?_
              refine jx_bipush E dX5_isUnder_15 ?_
              refine jx_icmp_ge (tgt := 39) E dX5_isUnder_17 (by decide) (fun c7 => ?_) (fun c7 => ?_)
              · skip
                exact absurd c7 (by decide)
              · skip
                refine jx_iload_n E 1 dX5_isUnder_20 rfl ?_
                refine jx_iload_n E 3 dX5_isUnder_21 rfl ?_
                refine jx_icmp_ne (tgt := 27) E dX5_isUnder_22 (by decide) (fun c8 => ?_) (fun c8 => ?_)
                · skip
                  refine jx_getska E wf_X5_249 dX5_isUnder_27 ?_
                  refine jx_iload_n E 1 dX5_isUnder_30 rfl ?_
                  refine jx_tka E (v := (-1)) (by first | rfl | decide) (by omega) (by omega) dX5_isUnder_31 ?_
                  refine jx_istore_n E dX5_isUnder_32 (by decide) [(2, vI (-1)), (3, vI (0 + 1)), (0, vI 2), (1, vI ab)] rfl ?_
                  refine jx_iinc E 1 dX5_isUnder_33 rfl (by decide) [(3, vI (0 + 1 + 1)), (2, vI (-1)), (0, vI 2), (1, vI ab)] rfl ?_
                  refine jx_goto (tgt := 4) E dX5_isUnder_36 (by decide) ?_
                  refine jx_iload_n E 0 dX5_isUnder_4 rfl ?_
                  refine jx_bipush E dX5_isUnder_5 ?_
                  refine jx_icmp_ge (tgt := 39) E dX5_isUnder_7 (by decide) (fun c9 => ?_) (fun c9 => ?_)
                  · skip
                    refine jx_iconst E dX5_isUnder_39 ?_
                    exact jx_zret E hr dX5_isUnder_40 (by omega) (by first | rfl | (congr 1; done)) (by first | exact Or.inl rfl | exact Or.inr rfl | omega)
                  · skip
                    refine jx_iload_n E 1 dX5_isUnder_10 rfl ?_
                    refine jx_if_lt (tgt := 39) E dX5_isUnder_11 (by decide) (fun c10 => ?_) (fun c10 => ?_)
                    · skip
                      refine jx_iconst E dX5_isUnder_39 ?_
                      exact jx_zret E hr dX5_isUnder_40 (by omega) (by first | rfl | (congr 1; done)) (by first | exact Or.inl rfl | exact Or.inr rfl | omega)
                    · skip
                      exact absurd c10 (by decide)
                · skip
                  refine jx_iconst E dX5_isUnder_25 ?_
                  exact jx_zret E hr dX5_isUnder_26 (by omega) (by first | rfl | (congr 1; done)) (by first | exact Or.inl rfl | exact Or.inr rfl | omega)
        · skip
          refine jx_iconst E dX5_isUnder_25 ?_
          exact jx_zret E hr dX5_isUnder_26 (by omega) (by first | rfl | (congr 1; done)) (by first | exact Or.inl rfl | exact Or.inr rfl | omega)
set_option maxHeartbeats 4000000 in
theorem c_X5_isUnder_k3 (l : Launch) (G : GT) (ws : va_W) {ab : Int} (h1 : 0 ≤ ab ∧ ab ≤ 5) : CtI l G yX5_isUnder cX5_isUnder 4 (some .boolean) 1 [vI 3, vI ab] ws (if ab = 0 ∨ ab = (3 : Int) ∨ (ab = 1 ∧ (3 : Int) = 4) ∨ (ab = 3 ∧ (3 : Int) = 5) then 1 else 0) ws := by
  refine CtI.of (by decide) (Nat.le_of_ble_eq_true rfl) ?_
  intro p e s m args below meth c A E hr
  refine jx_lv (lv' := [(0, vI 3), (1, vI ab)]) [0, 1] rfl ?_
  refine jx_iload_n E 0 dX5_isUnder_0 rfl ?_
  refine jx_istore_n E dX5_isUnder_1 (by decide) [(2, vI 3), (0, vI 3), (1, vI ab)] rfl ?_
  refine jx_iconst E dX5_isUnder_2 ?_
  refine jx_istore_n E dX5_isUnder_3 (by decide) [(3, vI 0), (2, vI 3), (0, vI 3), (1, vI ab)] rfl ?_
  refine jx_iload_n E 0 dX5_isUnder_4 rfl ?_
  refine jx_bipush E dX5_isUnder_5 ?_
  refine jx_icmp_ge (tgt := 39) E dX5_isUnder_7 (by decide) (fun c1 => ?_) (fun c1 => ?_)
  · skip
    exact absurd c1 (by decide)
  · skip
    refine jx_iload_n E 1 dX5_isUnder_10 rfl ?_
    refine jx_if_lt (tgt := 39) E dX5_isUnder_11 (by decide) (fun c2 => ?_) (fun c2 => ?_)
    · skip
      exact absurd c2 (by decide)
    · skip
      refine jx_iload_n E 1 dX5_isUnder_14 rfl ?_
      refine jx_bipush E dX5_isUnder_15 ?_
      refine jx_icmp_ge (tgt := 39) E dX5_isUnder_17 (by decide) (fun c3 => ?_) (fun c3 => ?_)
      · skip
        exact absurd c3 (by decide)
      · skip
        refine jx_iload_n E 1 dX5_isUnder_20 rfl ?_
        refine jx_iload_n E 3 dX5_isUnder_21 rfl ?_
        refine jx_icmp_ne (tgt := 27) E dX5_isUnder_22 (by decide) (fun c4 => ?_) (fun c4 => ?_)
        · skip
          refine jx_getska E wf_X5_249 dX5_isUnder_27 ?_
          refine jx_iload_n E 1 dX5_isUnder_30 rfl ?_
          refine jx_tka E (v := 0) (by first | rfl | decide) (by omega) (by omega) dX5_isUnder_31 ?_
          refine jx_istore_n E dX5_isUnder_32 (by decide) [(2, vI 0), (3, vI 0), (0, vI 3), (1, vI ab)] rfl ?_
          refine jx_iinc E 1 dX5_isUnder_33 rfl (by decide) [(3, vI (0 + 1)), (2, vI 0), (0, vI 3), (1, vI ab)] rfl ?_
          refine jx_goto (tgt := 4) E dX5_isUnder_36 (by decide) ?_
          refine jx_iload_n E 0 dX5_isUnder_4 rfl ?_
          refine jx_bipush E dX5_isUnder_5 ?_
          refine jx_icmp_ge (tgt := 39) E dX5_isUnder_7 (by decide) (fun c5 => ?_) (fun c5 => ?_)
          · skip
            refine jx_iconst E dX5_isUnder_39 ?_
            exact jx_zret E hr dX5_isUnder_40 (by omega) (by first | rfl | (congr 1; done)) (by first | exact Or.inl rfl | exact Or.inr rfl | omega)
          · skip
            refine jx_iload_n E 1 dX5_isUnder_10 rfl ?_
            refine jx_if_lt (tgt := 39) E dX5_isUnder_11 (by decide) (fun c6 => ?_) (fun c6 => ?_)
            · skip
              exact absurd c6 (by decide)
            · skip
              refine jx_iload_n E 1 dX5_isUnder_14 rfl ?_
              refine jx_bipush E dX5_isUnder_15 ?_
              refine jx_icmp_ge (tgt := 39) E dX5_isUnder_17 (by decide) (fun c7 => ?_) (fun c7 => ?_)
              · skip
                exact absurd c7 (by decide)
              · skip
                refine jx_iload_n E 1 dX5_isUnder_20 rfl ?_
                refine jx_iload_n E 3 dX5_isUnder_21 rfl ?_
                refine jx_icmp_ne (tgt := 27) E dX5_isUnder_22 (by decide) (fun c8 => ?_) (fun c8 => ?_)
                · skip
                  refine jx_getska E wf_X5_249 dX5_isUnder_27 ?_
                  refine jx_iload_n E 1 dX5_isUnder_30 rfl ?_
                  refine jx_tka E (v := (-1)) (by first | rfl | decide) (by omega) (by omega) dX5_isUnder_31 ?_
                  refine jx_istore_n E dX5_isUnder_32 (by decide) [(2, vI (-1)), (3, vI (0 + 1)), (0, vI 3), (1, vI ab)] rfl ?_
                  refine jx_iinc E 1 dX5_isUnder_33 rfl (by decide) [(3, vI (0 + 1 + 1)), (2, vI (-1)), (0, vI 3), (1, vI ab)] rfl ?_
                  refine jx_goto (tgt := 4) E dX5_isUnder_36 (by decide) ?_
                  refine jx_iload_n E 0 dX5_isUnder_4 rfl ?_
                  refine jx_bipush E dX5_isUnder_5 ?_
                  refine jx_icmp_ge (tgt := 39) E dX5_isUnder_7 (by decide) (fun c9 => ?_) (fun c9 => ?_)
                  · skip
                    refine jx_iconst E dX5_isUnder_39 ?_
                    exact jx_zret E hr dX5_isUnder_40 (by omega) (by first | rfl | (congr 1; done)) (by first | exact Or.inl rfl | exact Or.inr rfl | omega)
                  · skip
                    refine jx_iload_n E 1 dX5_isUnder_10 rfl ?_
                    refine jx_if_lt (tgt := 39) E dX5_isUnder_11 (by decide) (fun c10 => ?_) (fun c10 => ?_)
                    · skip
                      refine jx_iconst E dX5_isUnder_39 ?_
                      exact jx_zret E hr dX5_isUnder_40 (by omega) (by first | rfl | (congr 1; done)) (by first | exact Or.inl rfl | exact Or.inr rfl | omega)
                    · skip
                      exact absurd c10 (by decide)
                · skip
                  refine jx_iconst E dX5_isUnder_25 ?_
                  exact jx_zret E hr dX5_isUnder_26 (by omega) (by first | rfl | (congr 1; done)) (by first | exact Or.inl rfl | exact Or.inr rfl | omega)
        · skip
          refine jx_iconst E dX5_isUnder_25 ?_
          exact jx_zret E hr dX5_isUnder_26 (by omega) (by first | rfl | (congr 1; done)) (by first | exact Or.inl rfl | exact Or.inr rfl | omega)
set_option maxHeartbeats 4000000 in
theorem c_X5_isUnder_k4 (l : Launch) (G : GT) (ws : va_W) {ab : Int} (h1 : 0 ≤ ab ∧ ab ≤ 5) : CtI l G yX5_isUnder cX5_isUnder 4 (some .boolean) 1 [vI 4, vI ab] ws (if ab = 0 ∨ ab = (4 : Int) ∨ (ab = 1 ∧ (4 : Int) = 4) ∨ (ab = 3 ∧ (4 : Int) = 5) then 1 else 0) ws := by
  refine CtI.of (by decide) (Nat.le_of_ble_eq_true rfl) ?_
  intro p e s m args below meth c A E hr
  refine jx_lv (lv' := [(0, vI 4), (1, vI ab)]) [0, 1] rfl ?_
  refine jx_iload_n E 0 dX5_isUnder_0 rfl ?_
  refine jx_istore_n E dX5_isUnder_1 (by decide) [(2, vI 4), (0, vI 4), (1, vI ab)] rfl ?_
  refine jx_iconst E dX5_isUnder_2 ?_
  refine jx_istore_n E dX5_isUnder_3 (by decide) [(3, vI 0), (2, vI 4), (0, vI 4), (1, vI ab)] rfl ?_
  refine jx_iload_n E 0 dX5_isUnder_4 rfl ?_
  refine jx_bipush E dX5_isUnder_5 ?_
  refine jx_icmp_ge (tgt := 39) E dX5_isUnder_7 (by decide) (fun c1 => ?_) (fun c1 => ?_)
  · skip
    exact absurd c1 (by decide)
  · skip
    refine jx_iload_n E 1 dX5_isUnder_10 rfl ?_
    refine jx_if_lt (tgt := 39) E dX5_isUnder_11 (by decide) (fun c2 => ?_) (fun c2 => ?_)
    · skip
      exact absurd c2 (by decide)
    · skip
      refine jx_iload_n E 1 dX5_isUnder_14 rfl ?_
      refine jx_bipush E dX5_isUnder_15 ?_
      refine jx_icmp_ge (tgt := 39) E dX5_isUnder_17 (by decide) (fun c3 => ?_) (fun c3 => ?_)
      · skip
        exact absurd c3 (by decide)
      · skip
        refine jx_iload_n E 1 dX5_isUnder_20 rfl ?_
        refine jx_iload_n E 3 dX5_isUnder_21 rfl ?_
        refine jx_icmp_ne (tgt := 27) E dX5_isUnder_22 (by decide) (fun c4 => ?_) (fun c4 => ?_)
        · skip
          refine jx_getska E wf_X5_249 dX5_isUnder_27 ?_
          refine jx_iload_n E 1 dX5_isUnder_30 rfl ?_
          refine jx_tka E (v := 1) (by first | rfl | decide) (by omega) (by omega) dX5_isUnder_31 ?_
          refine jx_istore_n E dX5_isUnder_32 (by decide) [(2, vI 1), (3, vI 0), (0, vI 4), (1, vI ab)] rfl ?_
          refine jx_iinc E 1 dX5_isUnder_33 rfl (by decide) [(3, vI (0 + 1)), (2, vI 1), (0, vI 4), (1, vI ab)] rfl ?_
          refine jx_goto (tgt := 4) E dX5_isUnder_36 (by decide) ?_
          refine jx_iload_n E 0 dX5_isUnder_4 rfl ?_
          refine jx_bipush E dX5_isUnder_5 ?_
          refine jx_icmp_ge (tgt := 39) E dX5_isUnder_7 (by decide) (fun c5 => ?_) (fun c5 => ?_)
          · skip
            refine jx_iconst E dX5_isUnder_39 ?_
            exact jx_zret E hr dX5_isUnder_40 (by omega) (by first | rfl | (congr 1; done)) (by first | exact Or.inl rfl | exact Or.inr rfl | omega)
          · skip
            refine jx_iload_n E 1 dX5_isUnder_10 rfl ?_
            refine jx_if_lt (tgt := 39) E dX5_isUnder_11 (by decide) (fun c6 => ?_) (fun c6 => ?_)
            · skip
              exact absurd c6 (by decide)
            · skip
              refine jx_iload_n E 1 dX5_isUnder_14 rfl ?_
              refine jx_bipush E dX5_isUnder_15 ?_
              refine jx_icmp_ge (tgt := 39) E dX5_isUnder_17 (by decide) (fun c7 => ?_) (fun c7 => ?_)
              · skip
                exact absurd c7 (by decide)
              · skip
                refine jx_iload_n E 1 dX5_isUnder_20 rfl ?_
                refine jx_iload_n E 3 dX5_isUnder_21 rfl ?_
                refine jx_icmp_ne (tgt := 27) E dX5_isUnder_22 (by decide) (fun c8 => ?_) (fun c8 => ?_)
                · skip
                  refine jx_getska E wf_X5_249 dX5_isUnder_27 ?_
                  refine jx_iload_n E 1 dX5_isUnder_30 rfl ?_
                  refine jx_tka E (v := 0) (by first | rfl | decide) (by omega) (by omega) dX5_isUnder_31 ?_
                  refine jx_istore_n E dX5_isUnder_32 (by decide) [(2, vI 0), (3, vI (0 + 1)), (0, vI 4), (1, vI ab)] rfl ?_
                  refine jx_iinc E 1 dX5_isUnder_33 rfl (by decide) [(3, vI (0 + 1 + 1)), (2, vI 0), (0, vI 4), (1, vI ab)] rfl ?_
                  refine jx_goto (tgt := 4) E dX5_isUnder_36 (by decide) ?_
                  refine jx_iload_n E 0 dX5_isUnder_4 rfl ?_
                  refine jx_bipush E dX5_isUnder_5 ?_
                  refine jx_icmp_ge (tgt := 39) E dX5_isUnder_7 (by decide) (fun c9 => ?_) (fun c9 => ?_)
                  · skip
                    refine jx_iconst E dX5_isUnder_39 ?_
                    exact jx_zret E hr dX5_isUnder_40 (by omega) (by first | rfl | (congr 1; done)) (by first | exact Or.inl rfl | exact Or.inr rfl | omega)
                  · skip
                    refine jx_iload_n E 1 dX5_isUnder_10 rfl ?_
                    refine jx_if_lt (tgt := 39) E dX5_isUnder_11 (by decide) (fun c10 => ?_) (fun c10 => ?_)
                    · skip
                      exact absurd c10 (by decide)
                    · skip
                      refine jx_iload_n E 1 dX5_isUnder_14 rfl ?_
                      refine jx_bipush E dX5_isUnder_15 ?_
                      refine jx_icmp_ge (tgt := 39) E dX5_isUnder_17 (by decide) (fun c11 => ?_) (fun c11 => ?_)
                      · skip
                        exact absurd c11 (by decide)
                      · skip
                        refine jx_iload_n E 1 dX5_isUnder_20 rfl ?_
                        refine jx_iload_n E 3 dX5_isUnder_21 rfl ?_
                        refine jx_icmp_ne (tgt := 27) E dX5_isUnder_22 (by decide) (fun c12 => ?_) (fun c12 => ?_)
                        · skip
                          refine jx_getska E wf_X5_249 dX5_isUnder_27 ?_
                          refine jx_iload_n E 1 dX5_isUnder_30 rfl ?_
                          refine jx_tka E (v := (-1)) (by first | rfl | decide) (by omega) (by omega) dX5_isUnder_31 ?_
                          refine jx_istore_n E dX5_isUnder_32 (by decide) [(2, vI (-1)), (3, vI (0 + 1 + 1)), (0, vI 4), (1, vI ab)] rfl ?_
                          refine jx_iinc E 1 dX5_isUnder_33 rfl (by decide) [(3, vI (0 + 1 + 1 + 1)), (2, vI (-1)), (0, vI 4), (1, vI ab)] rfl ?_
                          refine jx_goto (tgt := 4) E dX5_isUnder_36 (by decide) ?_
                          refine jx_iload_n E 0 dX5_isUnder_4 rfl ?_
                          refine jx_bipush E dX5_isUnder_5 ?_
                          refine jx_icmp_ge (tgt := 39) E dX5_isUnder_7 (by decide) (fun c13 => ?_) (fun c13 => ?_)
                          · skip
                            refine jx_iconst E dX5_isUnder_39 ?_
                            exact jx_zret E hr dX5_isUnder_40 (by omega) (by first | rfl | (congr 1; done)) (by first | exact Or.inl rfl | exact Or.inr rfl | omega)
                          · skip
                            refine jx_iload_n E 1 dX5_isUnder_10 rfl ?_
                            refine jx_if_lt (tgt := 39) E dX5_isUnder_11 (by decide) (fun c14 => ?_) (fun c14 => ?_)
                            · skip
                              refine jx_iconst E dX5_isUnder_39 ?_
                              exact jx_zret E hr dX5_isUnder_40 (by omega) (by first | rfl | (congr 1; done)) (by first | exact Or.inl rfl | exact Or.inr rfl | omega)
                            · skip
                              exact absurd c14 (by decide)
                        · skip
                          refine jx_iconst E dX5_isUnder_25 ?_
                          exact jx_zret E hr dX5_isUnder_26 (by omega) (by first | rfl | (congr 1; done)) (by first | exact Or.inl rfl | exact Or.inr rfl | omega)
                · skip
                  refine jx_iconst E dX5_isUnder_25 ?_
                  exact jx_zret E hr dX5_isUnder_26 (by omega) (by first | rfl | (congr 1; done)) (by first | exact Or.inl rfl | exact Or.inr rfl | omega)
        · skip
          refine jx_iconst E dX5_isUnder_25 ?_
          exact jx_zret E hr dX5_isUnder_26 (by omega) (by first | rfl | (congr 1; done)) (by first | exact Or.inl rfl | exact Or.inr rfl | omega)
set_option maxHeartbeats 4000000 in
theorem c_X5_isUnder_k5 (l : Launch) (G : GT) (ws : va_W) {ab : Int} (h1 : 0 ≤ ab ∧ ab ≤ 5) : CtI l G yX5_isUnder cX5_isUnder 4 (some .boolean) 1 [vI 5, vI ab] ws (if ab = 0 ∨ ab = (5 : Int) ∨ (ab = 1 ∧ (5 : Int) = 4) ∨ (ab = 3 ∧ (5 : Int) = 5) then 1 else 0) ws := by
  refine CtI.of (by decide) (Nat.le_of_ble_eq_true rfl) ?_
  intro p e s m args below meth c A E hr
  refine jx_lv (lv' := [(0, vI 5), (1, vI ab)]) [0, 1] rfl ?_
  refine jx_iload_n E 0 dX5_isUnder_0 rfl ?_
  refine jx_istore_n E dX5_isUnder_1 (by decide) [(2, vI 5), (0, vI 5), (1, vI ab)] rfl ?_
  refine jx_iconst E dX5_isUnder_2 ?_
  refine jx_istore_n E dX5_isUnder_3 (by decide) [(3, vI 0), (2, vI 5), (0, vI 5), (1, vI ab)] rfl ?_
  refine jx_iload_n E 0 dX5_isUnder_4 rfl ?_
  refine jx_bipush E dX5_isUnder_5 ?_
  refine jx_icmp_ge (tgt := 39) E dX5_isUnder_7 (by decide) (fun c1 => ?_) (fun c1 => ?_)
  · skip
    exact absurd c1 (by decide)
  · skip
    refine jx_iload_n E 1 dX5_isUnder_10 rfl ?_
    refine jx_if_lt (tgt := 39) E dX5_isUnder_11 (by decide) (fun c2 => ?_) (fun c2 => ?_)
    · skip
      exact absurd c2 (by decide)
    · skip
      refine jx_iload_n E 1 dX5_isUnder_14 rfl ?_
      refine jx_bipush E dX5_isUnder_15 ?_
      refine jx_icmp_ge (tgt := 39) E dX5_isUnder_17 (by decide) (fun c3 => ?_) (fun c3 => ?_)
      · skip
        exact absurd c3 (by decide)
      · skip
        refine jx_iload_n E 1 dX5_isUnder_20 rfl ?_
        refine jx_iload_n E 3 dX5_isUnder_21 rfl ?_
        refine jx_icmp_ne (tgt := 27) E dX5_isUnder_22 (by decide) (fun c4 => ?_) (fun c4 => ?_)
        · skip
          refine jx_getska E wf_X5_249 dX5_isUnder_27 ?_
          refine jx_iload_n E 1 dX5_isUnder_30 rfl ?_
          refine jx_tka E (v := 3) (by first | rfl | decide) (by omega) (by omega) dX5_isUnder_31 ?_
          refine jx_istore_n E dX5_isUnder_32 (by decide) [(2, vI 3), (3, vI 0), (0, vI 5), (1, vI ab)] rfl ?_
          refine jx_iinc E 1 dX5_isUnder_33 rfl (by decide) [(3, vI (0 + 1)), (2, vI 3), (0, vI 5), (1, vI ab)] rfl ?_
          refine jx_goto (tgt := 4) E dX5_isUnder_36 (by decide) ?_
          refine jx_iload_n E 0 dX5_isUnder_4 rfl ?_
          refine jx_bipush E dX5_isUnder_5 ?_
          refine jx_icmp_ge (tgt := 39) E dX5_isUnder_7 (by decide) (fun c5 => ?_) (fun c5 => ?_)
          · skip
            refine jx_iconst E dX5_isUnder_39 ?_
            exact jx_zret E hr dX5_isUnder_40 (by omega) (by first | rfl | (congr 1; done)) (by first | exact Or.inl rfl | exact Or.inr rfl | omega)
          · skip
            refine jx_iload_n E 1 dX5_isUnder_10 rfl ?_
            refine jx_if_lt (tgt := 39) E dX5_isUnder_11 (by decide) (fun c6 => ?_) (fun c6 => ?_)
            · skip
              exact absurd c6 (by decide)
            · skip
              refine jx_iload_n E 1 dX5_isUnder_14 rfl ?_
              refine jx_bipush E dX5_isUnder_15 ?_
              refine jx_icmp_ge (tgt := 39) E dX5_isUnder_17 (by decide) (fun c7 => ?_) (fun c7 => ?_)
              · skip
                exact absurd c7 (by decide)
              · skip
                refine jx_iload_n E 1 dX5_isUnder_20 rfl ?_
                refine jx_iload_n E 3 dX5_isUnder_21 rfl ?_
                refine jx_icmp_ne (tgt := 27) E dX5_isUnder_22 (by decide) (fun c8 => ?_) (fun c8 => ?_)
                · skip
                  refine jx_getska E wf_X5_249 dX5_isUnder_27 ?_
                  refine jx_iload_n E 1 dX5_isUnder_30 rfl ?_
                  refine jx_tka E (v := 0) (by first | rfl | decide) (by omega) (by omega) dX5_isUnder_31 ?_
                  refine jx_istore_n E dX5_isUnder_32 (by decide) [(2, vI 0), (3, vI (0 + 1)), (0, vI 5), (1, vI ab)] rfl ?_
                  refine jx_iinc E 1 dX5_isUnder_33 rfl (by decide) [(3, vI (0 + 1 + 1)), (2, vI 0), (0, vI 5), (1, vI ab)] rfl ?_
                  refine jx_goto (tgt := 4) E dX5_isUnder_36 (by decide) ?_
                  refine jx_iload_n E 0 dX5_isUnder_4 rfl ?_
                  refine jx_bipush E dX5_isUnder_5 ?_
                  refine jx_icmp_ge (tgt := 39) E dX5_isUnder_7 (by decide) (fun c9 => ?_) (fun c9 => ?_)
                  · skip
                    refine jx_iconst E dX5_isUnder_39 ?_
                    exact jx_zret E hr dX5_isUnder_40 (by omega) (by first | rfl | (congr 1; done)) (by first | exact Or.inl rfl | exact Or.inr rfl | omega)
                  · skip
                    refine jx_iload_n E 1 dX5_isUnder_10 rfl ?_
                    refine jx_if_lt (tgt := 39) E dX5_isUnder_11 (by decide) (fun c10 => ?_) (fun c10 => ?_)
                    · skip
                      exact absurd c10 (by decide)
                    · skip
                      refine jx_iload_n E 1 dX5_isUnder_14 rfl ?_
                      refine jx_bipush E dX5_isUnder_15 ?_
                      refine jx_icmp_ge (tgt := 39) E dX5_isUnder_17 (by decide) (fun c11 => ?_) (fun c11 => ?_)
                      · skip
                        exact absurd c11 (by decide)
                      · skip
                        refine jx_iload_n E 1 dX5_isUnder_20 rfl ?_
                        refine jx_iload_n E 3 dX5_isUnder_21 rfl ?_
                        refine jx_icmp_ne (tgt := 27) E dX5_isUnder_22 (by decide) (fun c12 => ?_) (fun c12 => ?_)
                        · skip
                          refine jx_getska E wf_X5_249 dX5_isUnder_27 ?_
                          refine jx_iload_n E 1 dX5_isUnder_30 rfl ?_
                          refine jx_tka E (v := (-1)) (by first | rfl | decide) (by omega) (by omega) dX5_isUnder_31 ?_
                          refine jx_istore_n E dX5_isUnder_32 (by decide) [(2, vI (-1)), (3, vI (0 + 1 + 1)), (0, vI 5), (1, vI ab)] rfl ?_
                          refine jx_iinc E 1 dX5_isUnder_33 rfl (by decide) [(3, vI (0 + 1 + 1 + 1)), (2, vI (-1)), (0, vI 5), (1, vI ab)] rfl ?_
                          refine jx_goto (tgt := 4) E dX5_isUnder_36 (by decide) ?_
                          refine jx_iload_n E 0 dX5_isUnder_4 rfl ?_
                          refine jx_bipush E dX5_isUnder_5 ?_
                          refine jx_icmp_ge (tgt := 39) E dX5_isUnder_7 (by decide) (fun c13 => ?_) (fun c13 => ?_)
                          · skip
                            refine jx_iconst E dX5_isUnder_39 ?_
                            exact jx_zret E hr dX5_isUnder_40 (by omega) (by first | rfl | (congr 1; done)) (by first | exact Or.inl rfl | exact Or.inr rfl | omega)
                          · skip
                            refine jx_iload_n E 1 dX5_isUnder_10 rfl ?_
                            refine jx_if_lt (tgt := 39) E dX5_isUnder_11 (by decide) (fun c14 => ?_) (fun c14 => ?_)
                            · skip
                              refine jx_iconst E dX5_isUnder_39 ?_
                              exact jx_zret E hr dX5_isUnder_40 (by omega) (by first | rfl | (congr 1; done)) (by first | exact Or.inl rfl | exact Or.inr rfl | omega)
                            · skip
                              exact absurd c14 (by decide)
                        · skip
                          refine jx_iconst E dX5_isUnder_25 ?_
                          exact jx_zret E hr dX5_isUnder_26 (by omega) (by first | rfl | (congr 1; done)) (by first | exact Or.inl rfl | exact Or.inr rfl | omega)
                · skip
                  refine jx_iconst E dX5_isUnder_25 ?_
                  exact jx_zret E hr dX5_isUnder_26 (by omega) (by first | rfl | (congr 1; done)) (by first | exact Or.inl rfl | exact Or.inr rfl | omega)
        · skip
          refine jx_iconst E dX5_isUnder_25 ?_
          exact jx_zret E hr dX5_isUnder_26 (by omega) (by first | rfl | (congr 1; done)) (by first | exact Or.inl rfl | exact Or.inr rfl | omega)
theorem c_X5_isUnder (l : Launch) (G : GT) (ws : va_W) {kd ab : Int} (h1 : 0 ≤ kd ∧ kd ≤ 5) (h2 : 0 ≤ ab ∧ ab ≤ 5) : CtI l G yX5_isUnder cX5_isUnder 4 (some .boolean) 1 [vI kd, vI ab] ws (if ab = 0 ∨ ab = kd ∨ (ab = 1 ∧ kd = 4) ∨ (ab = 3 ∧ kd = 5) then 1 else 0) ws := by
  rcases (show kd = 0 ∨ kd = 1 ∨ kd = 2 ∨ kd = 3 ∨ kd = 4 ∨ kd = 5 by omega) with e | e | e | e | e | e <;> subst e
  · exact c_X5_isUnder_k0 l G ws h2
  · exact c_X5_isUnder_k1 l G ws h2
  · exact c_X5_isUnder_k2 l G ws h2
  · exact c_X5_isUnder_k3 l G ws h2
  · exact c_X5_isUnder_k4 l G ws h2
  · exact c_X5_isUnder_k5 l G ws h2
set_option maxHeartbeats 4000000 in
theorem c_X5_as (l : Launch) (G : GT) (a : Nat → Nat) (x : MS) {f k : Int} (h1 : VT 99999 (x 0)) (h2 : inR f) (h3 : inR k) : CtI l G yX5_as cX5_as 4 (some .int) 2 [.ref (a 0), vI f, vI k] (wsX G a x) (asR (x 0) f k) (wsX G a (endX x (asR (x 0) f k))) := by
  obtain ⟨v0, v1, v2, v3, v4, v5, v6, v7⟩ := id h1
  unfold inR at h2 h3
  have hb : vFou (x 0) f → (0 ≤ x 0 (21 + 5 * f) ∧ x 0 (21 + 5 * f) ≤ 5) ∧ 0 ≤ x 0 (21 + 5 * f + 3) := fun q => ⟨(v7 f q.1 q.2).1, (v7 f q.1 q.2).2.2.2.1.1⟩
  refine CtI.of (by decide) (Nat.le_of_ble_eq_true rfl) ?_
  intro p e s m args below meth c A E hr
  refine jx_lv (lv' := [(0, .ref (a 0)), (1, vI f), (2, vI k)]) [0, 1, 2] rfl ?_
  refine jx_aload_n E 0 dX5_as_0 rfl ?_
  refine jx_get E f_X5 0 (v := .ref (a 1)) wx_obj (by decide) wf_X5_10 rfl dX5_as_1 ?_
  refine jx_iload_n E 1 dX5_as_4 rfl ?_
  refine jx_callVi E [vI f] [] (c_X4_has_0 l G a x (f := f) (by unfold inR; omega) v4) mb_X4_has mv_X4_has wl_X5_101 f_X4 (wx_town (j := 0) (by decide)) dX5_as_5 ?_
  refine jx_if_eq (tgt := 18) E dX5_as_8 (by decide) (fun c1 => ?_) (fun c1 => ?_)
  · skip
    refine jx_aload_n E 0 dX5_as_18 rfl ?_
    refine jx_ldc E wc_X5_53 dX5_as_19 ?_
    refine jx_callVi E [vI (-1000000001)] [] (c_X5_found l G a x (f := (-1000000001)) (by omega)) mb_X5_found mv_X5_found wl_X5_54 f_X5 wx_obj dX5_as_21 ?_
    exact jx_iret E hr dX5_as_24 (by simp only [asR]; omega) (by rw [show asR (x 0) f k = (-1000000001) from by simp only [asR]; omega, endX_f (by decide)])
  · skip
    refine jx_iload_n E 2 dX5_as_11 rfl ?_
    refine jx_callSi E [vI k] [] (c_X5_isKind l G (wsX G a x) (k := k) (by unfold inR; omega)) mb_X5_isKind ms_X5_isKind wl_X5_90 dX5_as_12 ?_
    refine jx_if_ne (tgt := 25) E dX5_as_15 (by decide) (fun c2 => ?_) (fun c2 => ?_)
    · skip
      refine jx_aload_n E 0 dX5_as_25 rfl ?_
      refine jx_get E f_X5 0 (v := .ref (a 1)) wx_obj (by decide) wf_X5_10 rfl dX5_as_26 ?_
      refine jx_get E f_X4 6 (v := .ref (a 4)) (wx_town (j := 0) (by decide)) (by decide) wf_X5_104 rfl dX5_as_29 ?_
      refine jx_iload_n E 1 dX5_as_32 rfl ?_
      refine jx_aald E 2 (y := a (5 + 12 * 0 + f.toNat)) (wx_row (j := 0) (by decide)) rfl rfl (by omega) (by omega) (by decide) dX5_as_33 ?_
      refine jx_astore_n E dX5_as_34 (by decide) [(3, .ref (a (5 + 12 * 0 + f.toNat))), (0, .ref (a 0)), (1, vI f), (2, vI k)] rfl ?_
      refine jx_aload_n E 0 dX5_as_35 rfl ?_
      refine jx_get E f_X0 0 (v := vI ((x 0) (21 + 5 * f))) (wx_fou (j := 0) (by decide) (by omega) (by omega)) (by decide) wf_X5_112 rfl dX5_as_36 ?_
      refine jx_iload_n E 3 dX5_as_39 rfl ?_
      refine jx_callSi E [vI ((x 0) (21 + 5 * f)), vI k] [] (c_X5_isUnder l G (wsX G a x) (kd := (x 0) (21 + 5 * f)) (ab := k) (hb (by omega)).1 (by omega)) mb_X5_isUnder ms_X5_isUnder wl_X5_146 dX5_as_40 ?_
      refine jx_if_eq (tgt := 53) E dX5_as_43 (by decide) (fun c3 => ?_) (fun c3 => ?_)
      · skip
        refine jx_aload_n E 1 dX5_as_53 rfl ?_
        refine jx_ldc E wc_X5_149 dX5_as_54 ?_
        refine jx_callVi E [vI (-1000000003)] [] (c_X5_found l G a x (f := (-1000000003)) (by omega)) mb_X5_found mv_X5_found wl_X5_54 f_X5 wx_obj dX5_as_56 ?_
        exact jx_iret E hr dX5_as_59 (by simp only [asR]; omega) (by rw [show asR (x 0) f k = (-1000000003) from by simp only [asR]; omega, endX_f (by decide)])
      · skip
        refine jx_aload_n E 0 dX5_as_46 rfl ?_
        refine jx_get E f_X0 3 (v := vI ((x 0) (21 + 5 * f + 3))) (wx_fou (j := 0) (by decide) (by omega) (by omega)) (by decide) wf_X5_123 rfl dX5_as_47 ?_
        refine jx_goto (tgt := 59) E dX5_as_50 (by decide) ?_
        exact jx_iret E hr dX5_as_59 (by simp only [asR]; omega) (by rw [show asR (x 0) f k = (x 0) (21 + 5 * f + 3) from by simp only [asR]; omega, endX_n (by omega)])
    · skip
      refine jx_aload_n E 0 dX5_as_18 rfl ?_
      refine jx_ldc E wc_X5_53 dX5_as_19 ?_
      refine jx_callVi E [vI (-1000000001)] [] (c_X5_found l G a x (f := (-1000000001)) (by omega)) mb_X5_found mv_X5_found wl_X5_54 f_X5 wx_obj dX5_as_21 ?_
      exact jx_iret E hr dX5_as_24 (by simp only [asR]; omega) (by rw [show asR (x 0) f k = (-1000000001) from by simp only [asR]; omega, endX_f (by decide)])
