/-! the worlds of the two systems -/
def rowI (t : Int → Int) (b : Int) (n : Nat) : Nat → Int32 := fun k => if k < n then iI (t (b + k)) else 0
def rowL (t : Int → Int) (b : Int) (n : Nat) : Nat → Int64 := fun k => if k < n then lI (t (b + k)) else 0
theorem rowI_at {t : Int → Int} {b i : Int} {n : Nat} (h0 : 0 ≤ i) (h1 : i < n) : rowI t b n i.toNat = iI (t (b + i)) := by
  have h : i.toNat < n := by omega
  have e : ((i.toNat : Nat) : Int) = i := Int.toNat_of_nonneg h0
  simp only [rowI, if_pos h, e]
theorem rowL_at {t : Int → Int} {b i : Int} {n : Nat} (h0 : 0 ≤ i) (h1 : i < n) : rowL t b n i.toNat = lI (t (b + i)) := by
  have h : i.toNat < n := by omega
  have e : ((i.toNat : Nat) : Int) = i := Int.toNat_of_nonneg h0
  simp only [rowL, if_pos h, e]
theorem rowI_upd {t : Int → Int} {b i v : Int} {n : Nat} (h0 : 0 ≤ i) (h1 : i < n) : upd (rowI t b n) i.toNat (iI v) = rowI (updI t (b + i) v) b n := by
  funext k
  simp only [upd, rowI, updI]
  by_cases hk : k = i.toNat
  · subst hk
    rw [if_pos rfl, if_pos (by omega), if_pos (by omega)]
  · rw [if_neg hk]
    split
    · rw [if_neg (by omega)]
    · rfl
theorem rowL_upd {t : Int → Int} {b i v : Int} {n : Nat} (h0 : 0 ≤ i) (h1 : i < n) : vp_updL (rowL t b n) i.toNat (lI v) = rowL (updI t (b + i) v) b n := by
  funext k
  simp only [vp_updL, rowL, updI]
  by_cases hk : k = i.toNat
  · subst hk
    rw [if_pos rfl, if_pos (by omega), if_pos (by omega)]
  · rw [if_neg hk]
    split
    · rw [if_neg (by omega)]
    · rfl
theorem rowI_out {t : Int → Int} {b i v : Int} {n : Nat} (h : i < b ∨ b + n ≤ i) : rowI (updI t i v) b n = rowI t b n := by
  funext k
  simp only [rowI, updI]
  split
  · rw [if_neg (by omega)]
  · rfl
theorem rowL_out {t : Int → Int} {b i v : Int} {n : Nat} (h : i < b ∨ b + n ≤ i) : rowL (updI t i v) b n = rowL t b n := by
  funext k
  simp only [rowL, updI]
  split
  · rw [if_neg (by omega)]
  · rfl
theorem set_l {α : Type} {l r : List α} {k : Nat} {e : α} (h : k < l.length) : (l ++ r).set k e = l.set k e ++ r := List.set_append_left k e h
theorem set_r {α : Type} {l r : List α} {k n : Nat} {e : α} (h : l.length = n) : (l ++ r).set (n + k) e = l ++ r.set k e := by
  subst h
  rw [List.set_append_right _ _ (Nat.le_add_right _ _), Nat.add_sub_cancel_left]
def wsT (G : GT) (a : Nat → Nat) (b : Nat) (t : Int → Int) : va_W := [
  (a b, .inr (4, [vI (t 0), vI (t 1), vI (t 2), vI (t 3), .ref (a (b + 1)), .ref (a (b + 2)), .ref (a (b + 3)), vI (t 4)])),
  (a (b + 1), .inl (G.2.1 0, 8, .inl (rowI t 5 8))),
  (a (b + 2), .inl (G.2.1 0, 8, .inl (rowI t 13 8))),
  (a (b + 3), .inl (G.2.1 2, 8, .inr (.inr (.inr (.inr (fun i => some (a (b + 4 + i)))))))),
  (a (b + 4), .inr (0, [vI (t 21), vI (t 22), vI (t 23), vI (t 24), vI (t 25)])),
  (a (b + 5), .inr (0, [vI (t 26), vI (t 27), vI (t 28), vI (t 29), vI (t 30)])),
  (a (b + 6), .inr (0, [vI (t 31), vI (t 32), vI (t 33), vI (t 34), vI (t 35)])),
  (a (b + 7), .inr (0, [vI (t 36), vI (t 37), vI (t 38), vI (t 39), vI (t 40)])),
  (a (b + 8), .inr (0, [vI (t 41), vI (t 42), vI (t 43), vI (t 44), vI (t 45)])),
  (a (b + 9), .inr (0, [vI (t 46), vI (t 47), vI (t 48), vI (t 49), vI (t 50)])),
  (a (b + 10), .inr (0, [vI (t 51), vI (t 52), vI (t 53), vI (t 54), vI (t 55)])),
  (a (b + 11), .inr (0, [vI (t 56), vI (t 57), vI (t 58), vI (t 59), vI (t 60)]))]
def wsR (G : GT) (a : Nat → Nat) (x : MS) : va_W := [
  (a 37, .inr (2, [.ref (a 38), vI (x 9 1)])),
  (a 38, .inl (G.2.1 0, 120, .inl (rowI (x 3) 0 120))),
  (a 39, .inr (3, [.ref (a 37), vI (x 9 2), vI (x 9 3), vI (x 9 4), vI (x 9 5), vI (x 9 6)])),
  (a 40, .inl (G.2.1 3, 4, .inr (.inr (.inr (.inr (fun i => some (a (41 + 2 * i)))))))),
  (a 41, .inr (1, [vI (x 9 7), vI (x 9 8), .ref (a 42)])),
  (a 42, .inl (G.2.1 1, 40, .inr (.inl (rowL (x 5) 0 40)))),
  (a 43, .inr (1, [vI (x 9 9), vI (x 9 10), .ref (a 44)])),
  (a 44, .inl (G.2.1 1, 40, .inr (.inl (rowL (x 5) 40 40)))),
  (a 45, .inr (1, [vI (x 9 11), vI (x 9 12), .ref (a 46)])),
  (a 46, .inl (G.2.1 1, 40, .inr (.inl (rowL (x 5) 80 40)))),
  (a 47, .inr (1, [vI (x 9 13), vI (x 9 14), .ref (a 48)])),
  (a 48, .inl (G.2.1 1, 40, .inr (.inl (rowL (x 5) 120 40)))),
  (a 49, .inl (G.2.1 0, 7, .inl (rowI (x 4) 0 7)))]
def wsH (a : Nat → Nat) (v : Int) : Nat × va_E := (a 0, .inr (5, [.ref (a 1), .ref (a 13), .ref (a 25), vI v, .ref (a 37), .ref (a 39), .ref (a 40), .ref (a 49)]))
def wsX (G : GT) (a : Nat → Nat) (x : MS) : va_W :=
  wsH a (x 9 0) :: (wsT G a 1 (x 0) ++ (wsT G a 13 (x 1) ++ (wsT G a 25 (x 2) ++ wsR G a x)))
/-- the reference's world: rows m, kept, was, found, tape, bitsOf, sizeOf, cells; row 8: isKept, taped, token, begin, at, value, bad -/
def wsM (G : GT) (b : Nat → Nat) (y : MS) : va_W := [
  (b 0, .inr (6, [.ref (b 1), .ref (b 2), .ref (b 3), vI (y 8 0), .ref (b 4), .ref (b 5), vI (y 8 1), vI (y 8 2), vI (y 8 3), vI (y 8 4), vI (y 8 5), vI (y 8 6), .ref (b 6), .ref (b 7), .ref (b 8)])),
  (b 1, .inl (G.2.1 0, 61, .inl (rowI (y 0) 0 61))),
  (b 2, .inl (G.2.1 0, 61, .inl (rowI (y 1) 0 61))),
  (b 3, .inl (G.2.1 0, 61, .inl (rowI (y 2) 0 61))),
  (b 4, .inl (G.2.1 0, 7, .inl (rowI (y 3) 0 7))),
  (b 5, .inl (G.2.1 0, 120, .inl (rowI (y 4) 0 120))),
  (b 6, .inl (G.2.1 0, 4, .inl (rowI (y 5) 0 4))),
  (b 7, .inl (G.2.1 0, 4, .inl (rowI (y 6) 0 4))),
  (b 8, .inl (G.2.1 1, 160, .inr (.inl (rowL (y 7) 0 160))))]
section WLD
variable {G : GT} {a : Nat → Nat} {x : MS}
theorem wt_town {t : Int → Int} {b : Nat} : (wsT G a b t)[0]? = some (a b, .inr (4, [vI (t 0), vI (t 1), vI (t 2), vI (t 3), .ref (a (b + 1)), .ref (a (b + 2)), .ref (a (b + 3)), vI (t 4)])) := rfl
theorem j3 {P : Nat → Prop} (h0 : P 0) (h1 : P 1) (h2 : P 2) {j : Nat} (hj : j < 3) : P j := by
  match j, hj with
  | 0, _ => exact h0
  | 1, _ => exact h1
  | 2, _ => exact h2
theorem i8 {P : Int → Prop} (h0 : P 0) (h1 : P 1) (h2 : P 2) (h3 : P 3) (h4 : P 4) (h5 : P 5) (h6 : P 6) (h7 : P 7) {i : Int} (hi : 0 ≤ i) (h8 : i < 8) : P i := by
  rcases (show i = 0 ∨ i = 1 ∨ i = 2 ∨ i = 3 ∨ i = 4 ∨ i = 5 ∨ i = 6 ∨ i = 7 by omega) with h | h | h | h | h | h | h | h <;> rw [h] <;> assumption
/-- the cells of town j: its object, its rows, its fountains -/
theorem wx_town {j : Nat} (hj : j < 3) : (wsX G a x)[1 + 12 * j]? = some (a (1 + 12 * j), .inr (4, [vI (x j 0), vI (x j 1), vI (x j 2), vI (x j 3), .ref (a (2 + 12 * j)), .ref (a (3 + 12 * j)), .ref (a (4 + 12 * j)), vI (x j 4)])) := (by match j, hj with | 0, _ => rfl | 1, _ => rfl | 2, _ => rfl)
theorem wx_rain {j : Nat} (hj : j < 3) : (wsX G a x)[2 + 12 * j]? = some (a (2 + 12 * j), .inl (G.2.1 0, 8, .inl (rowI (x j) 5 8))) := (by match j, hj with | 0, _ => rfl | 1, _ => rfl | 2, _ => rfl)
theorem wx_cold {j : Nat} (hj : j < 3) : (wsX G a x)[3 + 12 * j]? = some (a (3 + 12 * j), .inl (G.2.1 0, 8, .inl (rowI (x j) 13 8))) := (by match j, hj with | 0, _ => rfl | 1, _ => rfl | 2, _ => rfl)
theorem wx_row {j : Nat} (hj : j < 3) : (wsX G a x)[4 + 12 * j]? = some (a (4 + 12 * j), .inl (G.2.1 2, 8, .inr (.inr (.inr (.inr (fun i => some (a (5 + 12 * j + i)))))))) := (by match j, hj with | 0, _ => rfl | 1, _ => rfl | 2, _ => rfl)
theorem wx_fou {j : Nat} (hj : j < 3) {i : Int} (h0 : 0 ≤ i) (h8 : i < 8) : (wsX G a x)[5 + 12 * j + i.toNat]? = some (a (5 + 12 * j + i.toNat), .inr (0, [vI (x j (21 + 5 * i)), vI (x j (21 + 5 * i + 1)), vI (x j (21 + 5 * i + 2)), vI (x j (21 + 5 * i + 3)), vI (x j (21 + 5 * i + 4))])) :=
  i8 (P := fun i => (wsX G a x)[5 + 12 * j + i.toNat]? = some (a (5 + 12 * j + i.toNat), .inr (0, [vI (x j (21 + 5 * i)), vI (x j (21 + 5 * i + 1)), vI (x j (21 + 5 * i + 2)), vI (x j (21 + 5 * i + 3)), vI (x j (21 + 5 * i + 4))]))) (by match j, hj with | 0, _ => rfl | 1, _ => rfl | 2, _ => rfl) (by match j, hj with | 0, _ => rfl | 1, _ => rfl | 2, _ => rfl) (by match j, hj with | 0, _ => rfl | 1, _ => rfl | 2, _ => rfl) (by match j, hj with | 0, _ => rfl | 1, _ => rfl | 2, _ => rfl) (by match j, hj with | 0, _ => rfl | 1, _ => rfl | 2, _ => rfl) (by match j, hj with | 0, _ => rfl | 1, _ => rfl | 2, _ => rfl) (by match j, hj with | 0, _ => rfl | 1, _ => rfl | 2, _ => rfl) (by match j, hj with | 0, _ => rfl | 1, _ => rfl | 2, _ => rfl) h0 h8
/-- a town's part changed -/
theorem wx_setT {j k : Nat} (hj : j < 3) (hk : k < 12) {e : Nat × va_E} {t : Int → Int} (h : (wsT G a (1 + 12 * j) (x j)).set k e = wsT G a (1 + 12 * j) t) : (wsX G a x).set (1 + 12 * j + k) e = wsX G a (setc x j t) := by
  have hl : ∀ b t, (wsT G a b t).length = 12 := fun _ _ => rfl
  revert h
  refine j3 (P := fun j => (wsT G a (1 + 12 * j) (x j)).set k e = wsT G a (1 + 12 * j) t → (wsX G a x).set (1 + 12 * j + k) e = wsX G a (setc x j t)) ?_ ?_ ?_ hj
  · intro h
    have h1 : (wsX G a x).set (1 + 12 * 0 + k) e = wsH a (x 9 0) :: (wsT G a 1 (x 0) ++ (wsT G a 13 (x 1) ++ (wsT G a 25 (x 2) ++ wsR G a x))).set k e := by
      rw [show 1 + 12 * 0 + k = k + 1 by omega]; rfl
    rw [h1, set_l (by rw [hl]; exact hk), show wsT G a 1 (x 0) = wsT G a (1 + 12 * 0) (x 0) from rfl, h]
    rfl
  · intro h
    have h1 : (wsX G a x).set (1 + 12 * 1 + k) e = wsH a (x 9 0) :: (wsT G a 1 (x 0) ++ (wsT G a 13 (x 1) ++ (wsT G a 25 (x 2) ++ wsR G a x))).set (12 + k) e := by
      rw [show 1 + 12 * 1 + k = (12 + k) + 1 by omega]; rfl
    rw [h1, set_r (hl _ _), set_l (by rw [hl]; exact hk), show wsT G a 13 (x 1) = wsT G a (1 + 12 * 1) (x 1) from rfl, h]
    rfl
  · intro h
    have h1 : (wsX G a x).set (1 + 12 * 2 + k) e = wsH a (x 9 0) :: (wsT G a 1 (x 0) ++ (wsT G a 13 (x 1) ++ (wsT G a 25 (x 2) ++ wsR G a x))).set (12 + (12 + k)) e := by
      rw [show 1 + 12 * 2 + k = (12 + (12 + k)) + 1 by omega]; rfl
    rw [h1, set_r (hl _ _), set_r (hl _ _), set_l (by rw [hl]; exact hk), show wsT G a 25 (x 2) = wsT G a (1 + 12 * 2) (x 2) from rfl, h]
    rfl
theorem updI_app (f : Int → Int) (k v j : Int) : updI f k v j = if j = k then v else f j := rfl
theorem setc_app (x : MS) (c : Nat) (f : Int → Int) (d : Nat) : setc x c f d = if d = c then f else x d := rfl
theorem wp_town0 {j : Nat} (hj : j < 3) {v : Int} : (wsX G a x).set (1 + 12 * j) (a (1 + 12 * j), .inr (4, ([vI (x j 0), vI (x j 1), vI (x j 2), vI (x j 3), .ref (a (2 + 12 * j)), .ref (a (3 + 12 * j)), .ref (a (4 + 12 * j)), vI (x j 4)] : List Value).set 0 (vI v))) = wsX G a (setc x j (updI (x j) 0 v)) := wx_setT (k := 0) hj (by omega) (by match j, hj with | 0, _ => simp [wsT, updI_app, rowI_out] | 1, _ => simp [wsT, updI_app, rowI_out] | 2, _ => simp [wsT, updI_app, rowI_out])
theorem wp_town1 {j : Nat} (hj : j < 3) {v : Int} : (wsX G a x).set (1 + 12 * j) (a (1 + 12 * j), .inr (4, ([vI (x j 0), vI (x j 1), vI (x j 2), vI (x j 3), .ref (a (2 + 12 * j)), .ref (a (3 + 12 * j)), .ref (a (4 + 12 * j)), vI (x j 4)] : List Value).set 1 (vI v))) = wsX G a (setc x j (updI (x j) 1 v)) := wx_setT (k := 0) hj (by omega) (by match j, hj with | 0, _ => simp [wsT, updI_app, rowI_out] | 1, _ => simp [wsT, updI_app, rowI_out] | 2, _ => simp [wsT, updI_app, rowI_out])
theorem wp_town2 {j : Nat} (hj : j < 3) {v : Int} : (wsX G a x).set (1 + 12 * j) (a (1 + 12 * j), .inr (4, ([vI (x j 0), vI (x j 1), vI (x j 2), vI (x j 3), .ref (a (2 + 12 * j)), .ref (a (3 + 12 * j)), .ref (a (4 + 12 * j)), vI (x j 4)] : List Value).set 2 (vI v))) = wsX G a (setc x j (updI (x j) 2 v)) := wx_setT (k := 0) hj (by omega) (by match j, hj with | 0, _ => simp [wsT, updI_app, rowI_out] | 1, _ => simp [wsT, updI_app, rowI_out] | 2, _ => simp [wsT, updI_app, rowI_out])
theorem wp_town3 {j : Nat} (hj : j < 3) {v : Int} : (wsX G a x).set (1 + 12 * j) (a (1 + 12 * j), .inr (4, ([vI (x j 0), vI (x j 1), vI (x j 2), vI (x j 3), .ref (a (2 + 12 * j)), .ref (a (3 + 12 * j)), .ref (a (4 + 12 * j)), vI (x j 4)] : List Value).set 3 (vI v))) = wsX G a (setc x j (updI (x j) 3 v)) := wx_setT (k := 0) hj (by omega) (by match j, hj with | 0, _ => simp [wsT, updI_app, rowI_out] | 1, _ => simp [wsT, updI_app, rowI_out] | 2, _ => simp [wsT, updI_app, rowI_out])
theorem wp_town7 {j : Nat} (hj : j < 3) {v : Int} : (wsX G a x).set (1 + 12 * j) (a (1 + 12 * j), .inr (4, ([vI (x j 0), vI (x j 1), vI (x j 2), vI (x j 3), .ref (a (2 + 12 * j)), .ref (a (3 + 12 * j)), .ref (a (4 + 12 * j)), vI (x j 4)] : List Value).set 7 (vI v))) = wsX G a (setc x j (updI (x j) 4 v)) := wx_setT (k := 0) hj (by omega) (by match j, hj with | 0, _ => simp [wsT, updI_app, rowI_out] | 1, _ => simp [wsT, updI_app, rowI_out] | 2, _ => simp [wsT, updI_app, rowI_out])
theorem wp_fou0 {j : Nat} (hj : j < 3) {i : Int} (h0 : 0 ≤ i) (h8 : i < 8) {v : Int} : (wsX G a x).set (5 + 12 * j + i.toNat) (a (5 + 12 * j + i.toNat), .inr (0, ([vI (x j (21 + 5 * i)), vI (x j (21 + 5 * i + 1)), vI (x j (21 + 5 * i + 2)), vI (x j (21 + 5 * i + 3)), vI (x j (21 + 5 * i + 4))] : List Value).set 0 (vI v))) = wsX G a (setc x j (updI (x j) (21 + 5 * i) v)) := by
  have h := wx_setT (G := G) (a := a) (x := x) (k := 4 + i.toNat) (e := (a (5 + 12 * j + i.toNat), .inr (0, ([vI (x j (21 + 5 * i)), vI (x j (21 + 5 * i + 1)), vI (x j (21 + 5 * i + 2)), vI (x j (21 + 5 * i + 3)), vI (x j (21 + 5 * i + 4))] : List Value).set 0 (vI v)))) hj (by omega) (i8 (P := fun i => (wsT G a (1 + 12 * j) (x j)).set (4 + i.toNat) (a (5 + 12 * j + i.toNat), .inr (0, ([vI (x j (21 + 5 * i)), vI (x j (21 + 5 * i + 1)), vI (x j (21 + 5 * i + 2)), vI (x j (21 + 5 * i + 3)), vI (x j (21 + 5 * i + 4))] : List Value).set 0 (vI v))) = wsT G a (1 + 12 * j) (updI (x j) (21 + 5 * i) v)) (by match j, hj with | 0, _ => simp [wsT, updI_app, rowI_out] | 1, _ => simp [wsT, updI_app, rowI_out] | 2, _ => simp [wsT, updI_app, rowI_out]) (by match j, hj with | 0, _ => simp [wsT, updI_app, rowI_out] | 1, _ => simp [wsT, updI_app, rowI_out] | 2, _ => simp [wsT, updI_app, rowI_out]) (by match j, hj with | 0, _ => simp [wsT, updI_app, rowI_out] | 1, _ => simp [wsT, updI_app, rowI_out] | 2, _ => simp [wsT, updI_app, rowI_out]) (by match j, hj with | 0, _ => simp [wsT, updI_app, rowI_out] | 1, _ => simp [wsT, updI_app, rowI_out] | 2, _ => simp [wsT, updI_app, rowI_out]) (by match j, hj with | 0, _ => simp [wsT, updI_app, rowI_out] | 1, _ => simp [wsT, updI_app, rowI_out] | 2, _ => simp [wsT, updI_app, rowI_out]) (by match j, hj with | 0, _ => simp [wsT, updI_app, rowI_out] | 1, _ => simp [wsT, updI_app, rowI_out] | 2, _ => simp [wsT, updI_app, rowI_out]) (by match j, hj with | 0, _ => simp [wsT, updI_app, rowI_out] | 1, _ => simp [wsT, updI_app, rowI_out] | 2, _ => simp [wsT, updI_app, rowI_out]) (by match j, hj with | 0, _ => simp [wsT, updI_app, rowI_out] | 1, _ => simp [wsT, updI_app, rowI_out] | 2, _ => simp [wsT, updI_app, rowI_out]) h0 h8)
  rwa [show 1 + 12 * j + (4 + i.toNat) = 5 + 12 * j + i.toNat by omega] at h
theorem wp_fou1 {j : Nat} (hj : j < 3) {i : Int} (h0 : 0 ≤ i) (h8 : i < 8) {v : Int} : (wsX G a x).set (5 + 12 * j + i.toNat) (a (5 + 12 * j + i.toNat), .inr (0, ([vI (x j (21 + 5 * i)), vI (x j (21 + 5 * i + 1)), vI (x j (21 + 5 * i + 2)), vI (x j (21 + 5 * i + 3)), vI (x j (21 + 5 * i + 4))] : List Value).set 1 (vI v))) = wsX G a (setc x j (updI (x j) (21 + 5 * i + 1) v)) := by
  have h := wx_setT (G := G) (a := a) (x := x) (k := 4 + i.toNat) (e := (a (5 + 12 * j + i.toNat), .inr (0, ([vI (x j (21 + 5 * i)), vI (x j (21 + 5 * i + 1)), vI (x j (21 + 5 * i + 2)), vI (x j (21 + 5 * i + 3)), vI (x j (21 + 5 * i + 4))] : List Value).set 1 (vI v)))) hj (by omega) (i8 (P := fun i => (wsT G a (1 + 12 * j) (x j)).set (4 + i.toNat) (a (5 + 12 * j + i.toNat), .inr (0, ([vI (x j (21 + 5 * i)), vI (x j (21 + 5 * i + 1)), vI (x j (21 + 5 * i + 2)), vI (x j (21 + 5 * i + 3)), vI (x j (21 + 5 * i + 4))] : List Value).set 1 (vI v))) = wsT G a (1 + 12 * j) (updI (x j) (21 + 5 * i + 1) v)) (by match j, hj with | 0, _ => simp [wsT, updI_app, rowI_out] | 1, _ => simp [wsT, updI_app, rowI_out] | 2, _ => simp [wsT, updI_app, rowI_out]) (by match j, hj with | 0, _ => simp [wsT, updI_app, rowI_out] | 1, _ => simp [wsT, updI_app, rowI_out] | 2, _ => simp [wsT, updI_app, rowI_out]) (by match j, hj with | 0, _ => simp [wsT, updI_app, rowI_out] | 1, _ => simp [wsT, updI_app, rowI_out] | 2, _ => simp [wsT, updI_app, rowI_out]) (by match j, hj with | 0, _ => simp [wsT, updI_app, rowI_out] | 1, _ => simp [wsT, updI_app, rowI_out] | 2, _ => simp [wsT, updI_app, rowI_out]) (by match j, hj with | 0, _ => simp [wsT, updI_app, rowI_out] | 1, _ => simp [wsT, updI_app, rowI_out] | 2, _ => simp [wsT, updI_app, rowI_out]) (by match j, hj with | 0, _ => simp [wsT, updI_app, rowI_out] | 1, _ => simp [wsT, updI_app, rowI_out] | 2, _ => simp [wsT, updI_app, rowI_out]) (by match j, hj with | 0, _ => simp [wsT, updI_app, rowI_out] | 1, _ => simp [wsT, updI_app, rowI_out] | 2, _ => simp [wsT, updI_app, rowI_out]) (by match j, hj with | 0, _ => simp [wsT, updI_app, rowI_out] | 1, _ => simp [wsT, updI_app, rowI_out] | 2, _ => simp [wsT, updI_app, rowI_out]) h0 h8)
  rwa [show 1 + 12 * j + (4 + i.toNat) = 5 + 12 * j + i.toNat by omega] at h
theorem wp_fou2 {j : Nat} (hj : j < 3) {i : Int} (h0 : 0 ≤ i) (h8 : i < 8) {v : Int} : (wsX G a x).set (5 + 12 * j + i.toNat) (a (5 + 12 * j + i.toNat), .inr (0, ([vI (x j (21 + 5 * i)), vI (x j (21 + 5 * i + 1)), vI (x j (21 + 5 * i + 2)), vI (x j (21 + 5 * i + 3)), vI (x j (21 + 5 * i + 4))] : List Value).set 2 (vI v))) = wsX G a (setc x j (updI (x j) (21 + 5 * i + 2) v)) := by
  have h := wx_setT (G := G) (a := a) (x := x) (k := 4 + i.toNat) (e := (a (5 + 12 * j + i.toNat), .inr (0, ([vI (x j (21 + 5 * i)), vI (x j (21 + 5 * i + 1)), vI (x j (21 + 5 * i + 2)), vI (x j (21 + 5 * i + 3)), vI (x j (21 + 5 * i + 4))] : List Value).set 2 (vI v)))) hj (by omega) (i8 (P := fun i => (wsT G a (1 + 12 * j) (x j)).set (4 + i.toNat) (a (5 + 12 * j + i.toNat), .inr (0, ([vI (x j (21 + 5 * i)), vI (x j (21 + 5 * i + 1)), vI (x j (21 + 5 * i + 2)), vI (x j (21 + 5 * i + 3)), vI (x j (21 + 5 * i + 4))] : List Value).set 2 (vI v))) = wsT G a (1 + 12 * j) (updI (x j) (21 + 5 * i + 2) v)) (by match j, hj with | 0, _ => simp [wsT, updI_app, rowI_out] | 1, _ => simp [wsT, updI_app, rowI_out] | 2, _ => simp [wsT, updI_app, rowI_out]) (by match j, hj with | 0, _ => simp [wsT, updI_app, rowI_out] | 1, _ => simp [wsT, updI_app, rowI_out] | 2, _ => simp [wsT, updI_app, rowI_out]) (by match j, hj with | 0, _ => simp [wsT, updI_app, rowI_out] | 1, _ => simp [wsT, updI_app, rowI_out] | 2, _ => simp [wsT, updI_app, rowI_out]) (by match j, hj with | 0, _ => simp [wsT, updI_app, rowI_out] | 1, _ => simp [wsT, updI_app, rowI_out] | 2, _ => simp [wsT, updI_app, rowI_out]) (by match j, hj with | 0, _ => simp [wsT, updI_app, rowI_out] | 1, _ => simp [wsT, updI_app, rowI_out] | 2, _ => simp [wsT, updI_app, rowI_out]) (by match j, hj with | 0, _ => simp [wsT, updI_app, rowI_out] | 1, _ => simp [wsT, updI_app, rowI_out] | 2, _ => simp [wsT, updI_app, rowI_out]) (by match j, hj with | 0, _ => simp [wsT, updI_app, rowI_out] | 1, _ => simp [wsT, updI_app, rowI_out] | 2, _ => simp [wsT, updI_app, rowI_out]) (by match j, hj with | 0, _ => simp [wsT, updI_app, rowI_out] | 1, _ => simp [wsT, updI_app, rowI_out] | 2, _ => simp [wsT, updI_app, rowI_out]) h0 h8)
  rwa [show 1 + 12 * j + (4 + i.toNat) = 5 + 12 * j + i.toNat by omega] at h
theorem wp_fou3 {j : Nat} (hj : j < 3) {i : Int} (h0 : 0 ≤ i) (h8 : i < 8) {v : Int} : (wsX G a x).set (5 + 12 * j + i.toNat) (a (5 + 12 * j + i.toNat), .inr (0, ([vI (x j (21 + 5 * i)), vI (x j (21 + 5 * i + 1)), vI (x j (21 + 5 * i + 2)), vI (x j (21 + 5 * i + 3)), vI (x j (21 + 5 * i + 4))] : List Value).set 3 (vI v))) = wsX G a (setc x j (updI (x j) (21 + 5 * i + 3) v)) := by
  have h := wx_setT (G := G) (a := a) (x := x) (k := 4 + i.toNat) (e := (a (5 + 12 * j + i.toNat), .inr (0, ([vI (x j (21 + 5 * i)), vI (x j (21 + 5 * i + 1)), vI (x j (21 + 5 * i + 2)), vI (x j (21 + 5 * i + 3)), vI (x j (21 + 5 * i + 4))] : List Value).set 3 (vI v)))) hj (by omega) (i8 (P := fun i => (wsT G a (1 + 12 * j) (x j)).set (4 + i.toNat) (a (5 + 12 * j + i.toNat), .inr (0, ([vI (x j (21 + 5 * i)), vI (x j (21 + 5 * i + 1)), vI (x j (21 + 5 * i + 2)), vI (x j (21 + 5 * i + 3)), vI (x j (21 + 5 * i + 4))] : List Value).set 3 (vI v))) = wsT G a (1 + 12 * j) (updI (x j) (21 + 5 * i + 3) v)) (by match j, hj with | 0, _ => simp [wsT, updI_app, rowI_out] | 1, _ => simp [wsT, updI_app, rowI_out] | 2, _ => simp [wsT, updI_app, rowI_out]) (by match j, hj with | 0, _ => simp [wsT, updI_app, rowI_out] | 1, _ => simp [wsT, updI_app, rowI_out] | 2, _ => simp [wsT, updI_app, rowI_out]) (by match j, hj with | 0, _ => simp [wsT, updI_app, rowI_out] | 1, _ => simp [wsT, updI_app, rowI_out] | 2, _ => simp [wsT, updI_app, rowI_out]) (by match j, hj with | 0, _ => simp [wsT, updI_app, rowI_out] | 1, _ => simp [wsT, updI_app, rowI_out] | 2, _ => simp [wsT, updI_app, rowI_out]) (by match j, hj with | 0, _ => simp [wsT, updI_app, rowI_out] | 1, _ => simp [wsT, updI_app, rowI_out] | 2, _ => simp [wsT, updI_app, rowI_out]) (by match j, hj with | 0, _ => simp [wsT, updI_app, rowI_out] | 1, _ => simp [wsT, updI_app, rowI_out] | 2, _ => simp [wsT, updI_app, rowI_out]) (by match j, hj with | 0, _ => simp [wsT, updI_app, rowI_out] | 1, _ => simp [wsT, updI_app, rowI_out] | 2, _ => simp [wsT, updI_app, rowI_out]) (by match j, hj with | 0, _ => simp [wsT, updI_app, rowI_out] | 1, _ => simp [wsT, updI_app, rowI_out] | 2, _ => simp [wsT, updI_app, rowI_out]) h0 h8)
  rwa [show 1 + 12 * j + (4 + i.toNat) = 5 + 12 * j + i.toNat by omega] at h
theorem wp_fou4 {j : Nat} (hj : j < 3) {i : Int} (h0 : 0 ≤ i) (h8 : i < 8) {v : Int} : (wsX G a x).set (5 + 12 * j + i.toNat) (a (5 + 12 * j + i.toNat), .inr (0, ([vI (x j (21 + 5 * i)), vI (x j (21 + 5 * i + 1)), vI (x j (21 + 5 * i + 2)), vI (x j (21 + 5 * i + 3)), vI (x j (21 + 5 * i + 4))] : List Value).set 4 (vI v))) = wsX G a (setc x j (updI (x j) (21 + 5 * i + 4) v)) := by
  have h := wx_setT (G := G) (a := a) (x := x) (k := 4 + i.toNat) (e := (a (5 + 12 * j + i.toNat), .inr (0, ([vI (x j (21 + 5 * i)), vI (x j (21 + 5 * i + 1)), vI (x j (21 + 5 * i + 2)), vI (x j (21 + 5 * i + 3)), vI (x j (21 + 5 * i + 4))] : List Value).set 4 (vI v)))) hj (by omega) (i8 (P := fun i => (wsT G a (1 + 12 * j) (x j)).set (4 + i.toNat) (a (5 + 12 * j + i.toNat), .inr (0, ([vI (x j (21 + 5 * i)), vI (x j (21 + 5 * i + 1)), vI (x j (21 + 5 * i + 2)), vI (x j (21 + 5 * i + 3)), vI (x j (21 + 5 * i + 4))] : List Value).set 4 (vI v))) = wsT G a (1 + 12 * j) (updI (x j) (21 + 5 * i + 4) v)) (by match j, hj with | 0, _ => simp [wsT, updI_app, rowI_out] | 1, _ => simp [wsT, updI_app, rowI_out] | 2, _ => simp [wsT, updI_app, rowI_out]) (by match j, hj with | 0, _ => simp [wsT, updI_app, rowI_out] | 1, _ => simp [wsT, updI_app, rowI_out] | 2, _ => simp [wsT, updI_app, rowI_out]) (by match j, hj with | 0, _ => simp [wsT, updI_app, rowI_out] | 1, _ => simp [wsT, updI_app, rowI_out] | 2, _ => simp [wsT, updI_app, rowI_out]) (by match j, hj with | 0, _ => simp [wsT, updI_app, rowI_out] | 1, _ => simp [wsT, updI_app, rowI_out] | 2, _ => simp [wsT, updI_app, rowI_out]) (by match j, hj with | 0, _ => simp [wsT, updI_app, rowI_out] | 1, _ => simp [wsT, updI_app, rowI_out] | 2, _ => simp [wsT, updI_app, rowI_out]) (by match j, hj with | 0, _ => simp [wsT, updI_app, rowI_out] | 1, _ => simp [wsT, updI_app, rowI_out] | 2, _ => simp [wsT, updI_app, rowI_out]) (by match j, hj with | 0, _ => simp [wsT, updI_app, rowI_out] | 1, _ => simp [wsT, updI_app, rowI_out] | 2, _ => simp [wsT, updI_app, rowI_out]) (by match j, hj with | 0, _ => simp [wsT, updI_app, rowI_out] | 1, _ => simp [wsT, updI_app, rowI_out] | 2, _ => simp [wsT, updI_app, rowI_out]) h0 h8)
  rwa [show 1 + 12 * j + (4 + i.toNat) = 5 + 12 * j + i.toNat by omega] at h
theorem wp_rain {j : Nat} (hj : j < 3) {i : Int} (h0 : 0 ≤ i) (h8 : i < 8) {v : Int} : (wsX G a x).set (2 + 12 * j) (a (2 + 12 * j), .inl (G.2.1 0, 8, .inl (upd (rowI (x j) 5 8) i.toNat (iI v)))) = wsX G a (setc x j (updI (x j) (5 + i) v)) := by
  rw [rowI_upd h0 (by omega)]
  have h := wx_setT (G := G) (a := a) (x := x) (k := 1) (e := (a (2 + 12 * j), .inl (G.2.1 0, 8, .inl (rowI (updI (x j) (5 + i) v) 5 8)))) (t := updI (x j) (5 + i) v) hj (by omega) (i8 (P := fun i => (wsT G a (1 + 12 * j) (x j)).set 1 (a (2 + 12 * j), .inl (G.2.1 0, 8, .inl (rowI (updI (x j) (5 + i) v) 5 8))) = wsT G a (1 + 12 * j) (updI (x j) (5 + i) v)) (by match j, hj with | 0, _ => simp [wsT, updI_app, rowI_out] | 1, _ => simp [wsT, updI_app, rowI_out] | 2, _ => simp [wsT, updI_app, rowI_out]) (by match j, hj with | 0, _ => simp [wsT, updI_app, rowI_out] | 1, _ => simp [wsT, updI_app, rowI_out] | 2, _ => simp [wsT, updI_app, rowI_out]) (by match j, hj with | 0, _ => simp [wsT, updI_app, rowI_out] | 1, _ => simp [wsT, updI_app, rowI_out] | 2, _ => simp [wsT, updI_app, rowI_out]) (by match j, hj with | 0, _ => simp [wsT, updI_app, rowI_out] | 1, _ => simp [wsT, updI_app, rowI_out] | 2, _ => simp [wsT, updI_app, rowI_out]) (by match j, hj with | 0, _ => simp [wsT, updI_app, rowI_out] | 1, _ => simp [wsT, updI_app, rowI_out] | 2, _ => simp [wsT, updI_app, rowI_out]) (by match j, hj with | 0, _ => simp [wsT, updI_app, rowI_out] | 1, _ => simp [wsT, updI_app, rowI_out] | 2, _ => simp [wsT, updI_app, rowI_out]) (by match j, hj with | 0, _ => simp [wsT, updI_app, rowI_out] | 1, _ => simp [wsT, updI_app, rowI_out] | 2, _ => simp [wsT, updI_app, rowI_out]) (by match j, hj with | 0, _ => simp [wsT, updI_app, rowI_out] | 1, _ => simp [wsT, updI_app, rowI_out] | 2, _ => simp [wsT, updI_app, rowI_out]) h0 h8)
  rwa [show 1 + 12 * j + 1 = 2 + 12 * j by omega] at h
theorem wp_cold {j : Nat} (hj : j < 3) {i : Int} (h0 : 0 ≤ i) (h8 : i < 8) {v : Int} : (wsX G a x).set (3 + 12 * j) (a (3 + 12 * j), .inl (G.2.1 0, 8, .inl (upd (rowI (x j) 13 8) i.toNat (iI v)))) = wsX G a (setc x j (updI (x j) (13 + i) v)) := by
  rw [rowI_upd h0 (by omega)]
  have h := wx_setT (G := G) (a := a) (x := x) (k := 2) (e := (a (3 + 12 * j), .inl (G.2.1 0, 8, .inl (rowI (updI (x j) (13 + i) v) 13 8)))) (t := updI (x j) (13 + i) v) hj (by omega) (i8 (P := fun i => (wsT G a (1 + 12 * j) (x j)).set 2 (a (3 + 12 * j), .inl (G.2.1 0, 8, .inl (rowI (updI (x j) (13 + i) v) 13 8))) = wsT G a (1 + 12 * j) (updI (x j) (13 + i) v)) (by match j, hj with | 0, _ => simp [wsT, updI_app, rowI_out] | 1, _ => simp [wsT, updI_app, rowI_out] | 2, _ => simp [wsT, updI_app, rowI_out]) (by match j, hj with | 0, _ => simp [wsT, updI_app, rowI_out] | 1, _ => simp [wsT, updI_app, rowI_out] | 2, _ => simp [wsT, updI_app, rowI_out]) (by match j, hj with | 0, _ => simp [wsT, updI_app, rowI_out] | 1, _ => simp [wsT, updI_app, rowI_out] | 2, _ => simp [wsT, updI_app, rowI_out]) (by match j, hj with | 0, _ => simp [wsT, updI_app, rowI_out] | 1, _ => simp [wsT, updI_app, rowI_out] | 2, _ => simp [wsT, updI_app, rowI_out]) (by match j, hj with | 0, _ => simp [wsT, updI_app, rowI_out] | 1, _ => simp [wsT, updI_app, rowI_out] | 2, _ => simp [wsT, updI_app, rowI_out]) (by match j, hj with | 0, _ => simp [wsT, updI_app, rowI_out] | 1, _ => simp [wsT, updI_app, rowI_out] | 2, _ => simp [wsT, updI_app, rowI_out]) (by match j, hj with | 0, _ => simp [wsT, updI_app, rowI_out] | 1, _ => simp [wsT, updI_app, rowI_out] | 2, _ => simp [wsT, updI_app, rowI_out]) (by match j, hj with | 0, _ => simp [wsT, updI_app, rowI_out] | 1, _ => simp [wsT, updI_app, rowI_out] | 2, _ => simp [wsT, updI_app, rowI_out]) h0 h8)
  rwa [show 1 + 12 * j + 2 = 3 + 12 * j by omega] at h
end WLD
