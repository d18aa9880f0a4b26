/-! the worlds: the class's other cells; the reference's cells -/
section WLR
variable {G : GT} {a : Nat → Nat} {x : MS}
theorem i4 {P : Int → Prop} (h0 : P 0) (h1 : P 1) (h2 : P 2) (h3 : P 3) {i : Int} (hi : 0 ≤ i) (h8 : i < 4) : P i := by
  rcases (show i = 0 ∨ i = 1 ∨ i = 2 ∨ i = 3 by omega) with h | h | h | h <;> rw [h] <;> assumption
theorem wx_setR {k : Nat} {e : Nat × va_E} {y : MS} (h : (wsR G a x).set k e = wsR G a y) (h0 : y 0 = x 0) (h1 : y 1 = x 1) (h2 : y 2 = x 2) (h9 : y 9 0 = x 9 0) : (wsX G a x).set (37 + k) e = wsX G a y := by
  have hl : ∀ b t, (wsT G a b t).length = 12 := fun _ _ => rfl
  have h3 : (wsX G a x).set (37 + k) e = wsH a (x 9 0) :: (wsT G a 1 (x 0) ++ (wsT G a 13 (x 1) ++ (wsT G a 25 (x 2) ++ wsR G a x))).set (12 + (12 + (12 + k))) e := by
    rw [show 37 + k = (12 + (12 + (12 + k))) + 1 by omega]; rfl
  rw [h3, set_r (hl _ _), set_r (hl _ _), set_r (hl _ _), h]
  show _ = wsH a (y 9 0) :: (wsT G a 1 (y 0) ++ (wsT G a 13 (y 1) ++ (wsT G a 25 (y 2) ++ wsR G a y)))
  rw [h0, h1, h2, h9]
theorem wx_obj : (wsX G a x)[0]? = some (a 0, .inr (5, [.ref (a 1), .ref (a 13), .ref (a 25), vI (x 9 0), .ref (a 37), .ref (a 39), .ref (a 40), .ref (a 49)])) := rfl
theorem wx_tape : (wsX G a x)[37]? = some (a 37, .inr (2, [.ref (a 38), vI (x 9 1)])) := rfl
theorem wx_byts : (wsX G a x)[38]? = some (a 38, .inl (G.2.1 0, 120, .inl (rowI (x 3) 0 120))) := rfl
theorem wx_read : (wsX G a x)[39]? = some (a 39, .inr (3, [.ref (a 37), vI (x 9 2), vI (x 9 3), vI (x 9 4), vI (x 9 5), vI (x 9 6)])) := rfl
theorem wx_shts : (wsX G a x)[40]? = some (a 40, .inl (G.2.1 3, 4, .inr (.inr (.inr (.inr (fun i => some (a (41 + 2 * i)))))))) := rfl
theorem wx_sht {i : Int} (h0 : 0 ≤ i) (h4 : i < 4) : (wsX G a x)[41 + 2 * i.toNat]? = some (a (41 + 2 * i.toNat), .inr (1, [vI (x 9 (7 + 2 * i)), vI (x 9 (8 + 2 * i)), .ref (a (42 + 2 * i.toNat))])) := i4 (P := fun i => (wsX G a x)[41 + 2 * i.toNat]? = some (a (41 + 2 * i.toNat), .inr (1, [vI (x 9 (7 + 2 * i)), vI (x 9 (8 + 2 * i)), .ref (a (42 + 2 * i.toNat))]))) rfl rfl rfl rfl h0 h4
theorem wx_nums {i : Int} (h0 : 0 ≤ i) (h4 : i < 4) : (wsX G a x)[42 + 2 * i.toNat]? = some (a (42 + 2 * i.toNat), .inl (G.2.1 1, 40, .inr (.inl (rowL (x 5) (40 * i) 40)))) := i4 (P := fun i => (wsX G a x)[42 + 2 * i.toNat]? = some (a (42 + 2 * i.toNat), .inl (G.2.1 1, 40, .inr (.inl (rowL (x 5) (40 * i) 40))))) rfl rfl rfl rfl h0 h4
theorem wx_taly : (wsX G a x)[49]? = some (a 49, .inl (G.2.1 0, 7, .inl (rowI (x 4) 0 7))) := rfl
theorem wp_keeps {v : Int} : (wsX G a x).set 0 (a 0, .inr (5, ([.ref (a 1), .ref (a 13), .ref (a 25), vI (x 9 0), .ref (a 37), .ref (a 39), .ref (a 40), .ref (a 49)] : List Value).set 3 (vI v))) = wsX G a (setc x 9 (updI (x 9) 0 v)) := by simp [wsX, wsH, wsR, setc_app, updI_app]
theorem wp_tlen {v : Int} : (wsX G a x).set 37 (a 37, .inr (2, ([.ref (a 38), vI (x 9 1)] : List Value).set 1 (vI v))) = wsX G a (setc x 9 (updI (x 9) 1 v)) := wx_setR (k := 37 - 37) (by simp [wsR, setc_app, updI_app]) (by simp [setc_app]) (by simp [setc_app]) (by simp [setc_app]) (by simp [setc_app, updI_app])
theorem wp_read1 {v : Int} : (wsX G a x).set 39 (a 39, .inr (3, ([.ref (a 37), vI (x 9 2), vI (x 9 3), vI (x 9 4), vI (x 9 5), vI (x 9 6)] : List Value).set 1 (vI v))) = wsX G a (setc x 9 (updI (x 9) 2 v)) := wx_setR (k := 39 - 37) (by simp [wsR, setc_app, updI_app]) (by simp [setc_app]) (by simp [setc_app]) (by simp [setc_app]) (by simp [setc_app, updI_app])
theorem wp_read2 {v : Int} : (wsX G a x).set 39 (a 39, .inr (3, ([.ref (a 37), vI (x 9 2), vI (x 9 3), vI (x 9 4), vI (x 9 5), vI (x 9 6)] : List Value).set 2 (vI v))) = wsX G a (setc x 9 (updI (x 9) 3 v)) := wx_setR (k := 39 - 37) (by simp [wsR, setc_app, updI_app]) (by simp [setc_app]) (by simp [setc_app]) (by simp [setc_app]) (by simp [setc_app, updI_app])
theorem wp_read3 {v : Int} : (wsX G a x).set 39 (a 39, .inr (3, ([.ref (a 37), vI (x 9 2), vI (x 9 3), vI (x 9 4), vI (x 9 5), vI (x 9 6)] : List Value).set 3 (vI v))) = wsX G a (setc x 9 (updI (x 9) 4 v)) := wx_setR (k := 39 - 37) (by simp [wsR, setc_app, updI_app]) (by simp [setc_app]) (by simp [setc_app]) (by simp [setc_app]) (by simp [setc_app, updI_app])
theorem wp_read4 {v : Int} : (wsX G a x).set 39 (a 39, .inr (3, ([.ref (a 37), vI (x 9 2), vI (x 9 3), vI (x 9 4), vI (x 9 5), vI (x 9 6)] : List Value).set 4 (vI v))) = wsX G a (setc x 9 (updI (x 9) 5 v)) := wx_setR (k := 39 - 37) (by simp [wsR, setc_app, updI_app]) (by simp [setc_app]) (by simp [setc_app]) (by simp [setc_app]) (by simp [setc_app, updI_app])
theorem wp_read5 {v : Int} : (wsX G a x).set 39 (a 39, .inr (3, ([.ref (a 37), vI (x 9 2), vI (x 9 3), vI (x 9 4), vI (x 9 5), vI (x 9 6)] : List Value).set 5 (vI v))) = wsX G a (setc x 9 (updI (x 9) 6 v)) := wx_setR (k := 39 - 37) (by simp [wsR, setc_app, updI_app]) (by simp [setc_app]) (by simp [setc_app]) (by simp [setc_app]) (by simp [setc_app, updI_app])
theorem wp_sht0 {i : Int} (h0 : 0 ≤ i) (h4 : i < 4) {v : Int} : (wsX G a x).set (41 + 2 * i.toNat) (a (41 + 2 * i.toNat), .inr (1, ([vI (x 9 (7 + 2 * i)), vI (x 9 (8 + 2 * i)), .ref (a (42 + 2 * i.toNat))] : List Value).set 0 (vI v))) = wsX G a (setc x 9 (updI (x 9) (7 + 2 * i) v)) := i4 (P := fun i => (wsX G a x).set (41 + 2 * i.toNat) (a (41 + 2 * i.toNat), .inr (1, ([vI (x 9 (7 + 2 * i)), vI (x 9 (8 + 2 * i)), .ref (a (42 + 2 * i.toNat))] : List Value).set 0 (vI v))) = wsX G a (setc x 9 (updI (x 9) (7 + 2 * i) v))) (wx_setR (k := 4) (by simp [wsR, setc_app, updI_app]) (by simp [setc_app]) (by simp [setc_app]) (by simp [setc_app]) (by simp [setc_app, updI_app])) (wx_setR (k := 6) (by simp [wsR, setc_app, updI_app]) (by simp [setc_app]) (by simp [setc_app]) (by simp [setc_app]) (by simp [setc_app, updI_app])) (wx_setR (k := 8) (by simp [wsR, setc_app, updI_app]) (by simp [setc_app]) (by simp [setc_app]) (by simp [setc_app]) (by simp [setc_app, updI_app])) (wx_setR (k := 10) (by simp [wsR, setc_app, updI_app]) (by simp [setc_app]) (by simp [setc_app]) (by simp [setc_app]) (by simp [setc_app, updI_app])) h0 h4
theorem wp_sht1 {i : Int} (h0 : 0 ≤ i) (h4 : i < 4) {v : Int} : (wsX G a x).set (41 + 2 * i.toNat) (a (41 + 2 * i.toNat), .inr (1, ([vI (x 9 (7 + 2 * i)), vI (x 9 (8 + 2 * i)), .ref (a (42 + 2 * i.toNat))] : List Value).set 1 (vI v))) = wsX G a (setc x 9 (updI (x 9) (8 + 2 * i) v)) := i4 (P := fun i => (wsX G a x).set (41 + 2 * i.toNat) (a (41 + 2 * i.toNat), .inr (1, ([vI (x 9 (7 + 2 * i)), vI (x 9 (8 + 2 * i)), .ref (a (42 + 2 * i.toNat))] : List Value).set 1 (vI v))) = wsX G a (setc x 9 (updI (x 9) (8 + 2 * i) v))) (wx_setR (k := 4) (by simp [wsR, setc_app, updI_app]) (by simp [setc_app]) (by simp [setc_app]) (by simp [setc_app]) (by simp [setc_app, updI_app])) (wx_setR (k := 6) (by simp [wsR, setc_app, updI_app]) (by simp [setc_app]) (by simp [setc_app]) (by simp [setc_app]) (by simp [setc_app, updI_app])) (wx_setR (k := 8) (by simp [wsR, setc_app, updI_app]) (by simp [setc_app]) (by simp [setc_app]) (by simp [setc_app]) (by simp [setc_app, updI_app])) (wx_setR (k := 10) (by simp [wsR, setc_app, updI_app]) (by simp [setc_app]) (by simp [setc_app]) (by simp [setc_app]) (by simp [setc_app, updI_app])) h0 h4
theorem wp_nums {s : Int} (h0 : 0 ≤ s) (h4 : s < 4) {i v : Int} (hi : 0 ≤ i) (hj : i < 40) : (wsX G a x).set (42 + 2 * s.toNat) (a (42 + 2 * s.toNat), .inl (G.2.1 1, 40, .inr (.inl (vp_updL (rowL (x 5) (40 * s) 40) i.toNat (lI v))))) = wsX G a (setc x 5 (updI (x 5) (40 * s + i) v)) := by
  rw [rowL_upd hi (by omega)]
  have r0 : ∀ q z : Int, 0 ≤ q → q ≤ 3 → 0 ≤ z → z ≤ 3 → q ≠ z → rowL (updI (x 5) (40 * q + i) v) (40 * z) 40 = rowL (x 5) (40 * z) 40 := fun q z a b c d e => rowL_out (by omega)
  have e01 := r0 0 1 (by decide) (by decide) (by decide) (by decide) (by decide)
  have e02 := r0 0 2 (by decide) (by decide) (by decide) (by decide) (by decide)
  have e03 := r0 0 3 (by decide) (by decide) (by decide) (by decide) (by decide)
  have e10 := r0 1 0 (by decide) (by decide) (by decide) (by decide) (by decide)
  have e12 := r0 1 2 (by decide) (by decide) (by decide) (by decide) (by decide)
  have e13 := r0 1 3 (by decide) (by decide) (by decide) (by decide) (by decide)
  have e20 := r0 2 0 (by decide) (by decide) (by decide) (by decide) (by decide)
  have e21 := r0 2 1 (by decide) (by decide) (by decide) (by decide) (by decide)
  have e23 := r0 2 3 (by decide) (by decide) (by decide) (by decide) (by decide)
  have e30 := r0 3 0 (by decide) (by decide) (by decide) (by decide) (by decide)
  have e31 := r0 3 1 (by decide) (by decide) (by decide) (by decide) (by decide)
  have e32 := r0 3 2 (by decide) (by decide) (by decide) (by decide) (by decide)
  simp only [Int.reduceMul] at e01 e02 e03 e10 e12 e13 e20 e21 e23 e30 e31 e32
  rw [Int.zero_add] at e01 e02 e03
  exact i4 (P := fun s => (wsX G a x).set (42 + 2 * s.toNat) (a (42 + 2 * s.toNat), .inl (G.2.1 1, 40, .inr (.inl (rowL (updI (x 5) (40 * s + i) v) (40 * s) 40)))) = wsX G a (setc x 5 (updI (x 5) (40 * s + i) v))) (wx_setR (k := 5) (by simp only [wsR, setc_app, Int.reduceMul]; simp [e01, e02, e03]) (by simp [setc_app]) (by simp [setc_app]) (by simp [setc_app]) (by simp [setc_app])) (wx_setR (k := 7) (by simp only [wsR, setc_app, Int.reduceMul]; simp [e10, e12, e13]) (by simp [setc_app]) (by simp [setc_app]) (by simp [setc_app]) (by simp [setc_app])) (wx_setR (k := 9) (by simp only [wsR, setc_app, Int.reduceMul]; simp [e20, e21, e23]) (by simp [setc_app]) (by simp [setc_app]) (by simp [setc_app]) (by simp [setc_app])) (wx_setR (k := 11) (by simp only [wsR, setc_app, Int.reduceMul]; simp [e30, e31, e32]) (by simp [setc_app]) (by simp [setc_app]) (by simp [setc_app]) (by simp [setc_app])) h0 h4
theorem wp_byts {i v : Int} (hi : 0 ≤ i) (hj : i < 120) : (wsX G a x).set 38 (a 38, .inl (G.2.1 0, 120, .inl (upd (rowI (x 3) 0 120) i.toNat (iI v)))) = wsX G a (setc x 3 (updI (x 3) i v)) := by
  rw [rowI_upd hi (by omega), Int.zero_add]
  exact wx_setR (k := 1) (by simp [wsR, setc_app]) (by simp [setc_app]) (by simp [setc_app]) (by simp [setc_app]) (by simp [setc_app])
theorem wp_taly {i v : Int} (hi : 0 ≤ i) (hj : i < 7) : (wsX G a x).set 49 (a 49, .inl (G.2.1 0, 7, .inl (upd (rowI (x 4) 0 7) i.toNat (iI v)))) = wsX G a (setc x 4 (updI (x 4) i v)) := by
  rw [rowI_upd hi (by omega), Int.zero_add]
  exact wx_setR (k := 12) (by simp [wsR, setc_app]) (by simp [setc_app]) (by simp [setc_app]) (by simp [setc_app]) (by simp [setc_app])
end WLR
section WLM
variable {G : GT} {b : Nat → Nat} {y : MS}
theorem wm_obj : (wsM G b y)[0]? = some (b 0, .inr (6, [.ref (b 1), .ref (b 2), .ref (b 3), vI (y 8 0), .ref (b 4), .ref (b 5), vI (y 8 1), vI (y 8 2), vI (y 8 3), vI (y 8 4), vI (y 8 5), vI (y 8 6), .ref (b 6), .ref (b 7), .ref (b 8)])) := rfl
theorem wm_m : (wsM G b y)[1]? = some (b 1, .inl (G.2.1 0, 61, .inl (rowI (y 0) 0 61))) := rfl
theorem wq_m {i v : Int} (hi : 0 ≤ i) (hj : i < 61) : (wsM G b y).set 1 (b 1, .inl (G.2.1 0, 61, .inl (upd (rowI (y 0) 0 61) i.toNat (iI v)))) = wsM G b (setc y 0 (updI (y 0) i v)) := by
  rw [rowI_upd hi (by omega), Int.zero_add]
  simp [wsM, setc_app]
theorem wm_kept : (wsM G b y)[2]? = some (b 2, .inl (G.2.1 0, 61, .inl (rowI (y 1) 0 61))) := rfl
theorem wq_kept {i v : Int} (hi : 0 ≤ i) (hj : i < 61) : (wsM G b y).set 2 (b 2, .inl (G.2.1 0, 61, .inl (upd (rowI (y 1) 0 61) i.toNat (iI v)))) = wsM G b (setc y 1 (updI (y 1) i v)) := by
  rw [rowI_upd hi (by omega), Int.zero_add]
  simp [wsM, setc_app]
theorem wm_was : (wsM G b y)[3]? = some (b 3, .inl (G.2.1 0, 61, .inl (rowI (y 2) 0 61))) := rfl
theorem wq_was {i v : Int} (hi : 0 ≤ i) (hj : i < 61) : (wsM G b y).set 3 (b 3, .inl (G.2.1 0, 61, .inl (upd (rowI (y 2) 0 61) i.toNat (iI v)))) = wsM G b (setc y 2 (updI (y 2) i v)) := by
  rw [rowI_upd hi (by omega), Int.zero_add]
  simp [wsM, setc_app]
theorem wm_found : (wsM G b y)[4]? = some (b 4, .inl (G.2.1 0, 7, .inl (rowI (y 3) 0 7))) := rfl
theorem wq_found {i v : Int} (hi : 0 ≤ i) (hj : i < 7) : (wsM G b y).set 4 (b 4, .inl (G.2.1 0, 7, .inl (upd (rowI (y 3) 0 7) i.toNat (iI v)))) = wsM G b (setc y 3 (updI (y 3) i v)) := by
  rw [rowI_upd hi (by omega), Int.zero_add]
  simp [wsM, setc_app]
theorem wm_tape : (wsM G b y)[5]? = some (b 5, .inl (G.2.1 0, 120, .inl (rowI (y 4) 0 120))) := rfl
theorem wq_tape {i v : Int} (hi : 0 ≤ i) (hj : i < 120) : (wsM G b y).set 5 (b 5, .inl (G.2.1 0, 120, .inl (upd (rowI (y 4) 0 120) i.toNat (iI v)))) = wsM G b (setc y 4 (updI (y 4) i v)) := by
  rw [rowI_upd hi (by omega), Int.zero_add]
  simp [wsM, setc_app]
theorem wm_bits : (wsM G b y)[6]? = some (b 6, .inl (G.2.1 0, 4, .inl (rowI (y 5) 0 4))) := rfl
theorem wq_bits {i v : Int} (hi : 0 ≤ i) (hj : i < 4) : (wsM G b y).set 6 (b 6, .inl (G.2.1 0, 4, .inl (upd (rowI (y 5) 0 4) i.toNat (iI v)))) = wsM G b (setc y 5 (updI (y 5) i v)) := by
  rw [rowI_upd hi (by omega), Int.zero_add]
  simp [wsM, setc_app]
theorem wm_size : (wsM G b y)[7]? = some (b 7, .inl (G.2.1 0, 4, .inl (rowI (y 6) 0 4))) := rfl
theorem wq_size {i v : Int} (hi : 0 ≤ i) (hj : i < 4) : (wsM G b y).set 7 (b 7, .inl (G.2.1 0, 4, .inl (upd (rowI (y 6) 0 4) i.toNat (iI v)))) = wsM G b (setc y 6 (updI (y 6) i v)) := by
  rw [rowI_upd hi (by omega), Int.zero_add]
  simp [wsM, setc_app]
theorem wm_cells : (wsM G b y)[8]? = some (b 8, .inl (G.2.1 1, 160, .inr (.inl (rowL (y 7) 0 160)))) := rfl
theorem wq_cells {i v : Int} (hi : 0 ≤ i) (hj : i < 160) : (wsM G b y).set 8 (b 8, .inl (G.2.1 1, 160, .inr (.inl (vp_updL (rowL (y 7) 0 160) i.toNat (lI v))))) = wsM G b (setc y 7 (updI (y 7) i v)) := by
  rw [rowL_upd hi (by omega), Int.zero_add]
  simp [wsM, setc_app]
theorem wq_obj3 {v : Int} : (wsM G b y).set 0 (b 0, .inr (6, ([.ref (b 1), .ref (b 2), .ref (b 3), vI (y 8 0), .ref (b 4), .ref (b 5), vI (y 8 1), vI (y 8 2), vI (y 8 3), vI (y 8 4), vI (y 8 5), vI (y 8 6), .ref (b 6), .ref (b 7), .ref (b 8)] : List Value).set 3 (vI v))) = wsM G b (setc y 8 (updI (y 8) 0 v)) := by simp [wsM, setc_app, updI_app]
theorem wq_obj6 {v : Int} : (wsM G b y).set 0 (b 0, .inr (6, ([.ref (b 1), .ref (b 2), .ref (b 3), vI (y 8 0), .ref (b 4), .ref (b 5), vI (y 8 1), vI (y 8 2), vI (y 8 3), vI (y 8 4), vI (y 8 5), vI (y 8 6), .ref (b 6), .ref (b 7), .ref (b 8)] : List Value).set 6 (vI v))) = wsM G b (setc y 8 (updI (y 8) 1 v)) := by simp [wsM, setc_app, updI_app]
theorem wq_obj7 {v : Int} : (wsM G b y).set 0 (b 0, .inr (6, ([.ref (b 1), .ref (b 2), .ref (b 3), vI (y 8 0), .ref (b 4), .ref (b 5), vI (y 8 1), vI (y 8 2), vI (y 8 3), vI (y 8 4), vI (y 8 5), vI (y 8 6), .ref (b 6), .ref (b 7), .ref (b 8)] : List Value).set 7 (vI v))) = wsM G b (setc y 8 (updI (y 8) 2 v)) := by simp [wsM, setc_app, updI_app]
theorem wq_obj8 {v : Int} : (wsM G b y).set 0 (b 0, .inr (6, ([.ref (b 1), .ref (b 2), .ref (b 3), vI (y 8 0), .ref (b 4), .ref (b 5), vI (y 8 1), vI (y 8 2), vI (y 8 3), vI (y 8 4), vI (y 8 5), vI (y 8 6), .ref (b 6), .ref (b 7), .ref (b 8)] : List Value).set 8 (vI v))) = wsM G b (setc y 8 (updI (y 8) 3 v)) := by simp [wsM, setc_app, updI_app]
theorem wq_obj9 {v : Int} : (wsM G b y).set 0 (b 0, .inr (6, ([.ref (b 1), .ref (b 2), .ref (b 3), vI (y 8 0), .ref (b 4), .ref (b 5), vI (y 8 1), vI (y 8 2), vI (y 8 3), vI (y 8 4), vI (y 8 5), vI (y 8 6), .ref (b 6), .ref (b 7), .ref (b 8)] : List Value).set 9 (vI v))) = wsM G b (setc y 8 (updI (y 8) 4 v)) := by simp [wsM, setc_app, updI_app]
theorem wq_obj10 {v : Int} : (wsM G b y).set 0 (b 0, .inr (6, ([.ref (b 1), .ref (b 2), .ref (b 3), vI (y 8 0), .ref (b 4), .ref (b 5), vI (y 8 1), vI (y 8 2), vI (y 8 3), vI (y 8 4), vI (y 8 5), vI (y 8 6), .ref (b 6), .ref (b 7), .ref (b 8)] : List Value).set 10 (vI v))) = wsM G b (setc y 8 (updI (y 8) 5 v)) := by simp [wsM, setc_app, updI_app]
theorem wq_obj11 {v : Int} : (wsM G b y).set 0 (b 0, .inr (6, ([.ref (b 1), .ref (b 2), .ref (b 3), vI (y 8 0), .ref (b 4), .ref (b 5), vI (y 8 1), vI (y 8 2), vI (y 8 3), vI (y 8 4), vI (y 8 5), vI (y 8 6), .ref (b 6), .ref (b 7), .ref (b 8)] : List Value).set 11 (vI v))) = wsM G b (setc y 8 (updI (y 8) 6 v)) := by simp [wsM, setc_app, updI_app]
theorem row0_at {t : Int → Int} {i : Int} {n : Nat} (h0 : 0 ≤ i) (h1 : i < n) : rowI t 0 n i.toNat = iI (t i) := by rw [rowI_at h0 h1, Int.zero_add]
theorem row0L_at {t : Int → Int} {i : Int} {n : Nat} (h0 : 0 ≤ i) (h1 : i < n) : rowL t 0 n i.toNat = lI (t i) := by rw [rowL_at h0 h1, Int.zero_add]
end WLM
