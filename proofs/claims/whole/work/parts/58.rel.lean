/-! the class and the reference side by side: what holds between two calls, and how each call keeps it -/
def TWO (x y : MS) : Prop := (EQ (x 0) (y 0) ∧ VT 99999 (y 0)) ∧ (x 9 0 = y 8 0 ∧ (y 8 0 = 0 ∨ y 8 0 = 1)) ∧ (y 8 0 = 1 → EQ (x 2) (y 1) ∧ VT 99999 (y 1)) ∧ (x 3 = y 4 ∧ x 9 1 = y 8 1) ∧ ((0 ≤ y 8 1 ∧ y 8 1 ≤ 120) ∧ ∀ k, 0 ≤ k → k < y 8 1 → 0 ≤ y 4 k ∧ y 4 k ≤ 255) ∧ x 4 = y 3 ∧ x 5 = y 7 ∧ (∀ s, 0 ≤ s → s ≤ 3 → x 9 (7 + 2 * s) = y 5 s ∧ x 9 (8 + 2 * s) = y 6 s) ∧ VSM y
section REL
variable {x y : MS}
theorem TWO.e (h : TWO x y) : EQ (x 0) (y 0) := h.1.1
theorem TWO.v (h : TWO x y) : VT 99999 (y 0) := h.1.2
theorem TWO.vx (h : TWO x y) : VT 99999 (x 0) := h.1.1.snd h.1.2
theorem TWO.xs (h : TWO x y) : x 5 = y 7 := h.2.2.2.2.2.2.1
theorem TWO.x4 (h : TWO x y) : x 4 = y 3 := h.2.2.2.2.2.1
theorem TWO.sh (h : TWO x y) : ∀ s, 0 ≤ s → s ≤ 3 → x 9 (7 + 2 * s) = y 5 s ∧ x 9 (8 + 2 * s) = y 6 s := h.2.2.2.2.2.2.2.1
theorem TWO.vs (h : TWO x y) : VSM y := h.2.2.2.2.2.2.2.2
theorem TWO.shq (h : TWO x y) (s : Int) : shX x s = shM y s := by unfold shX shM; rw [h.xs]
theorem TWO.vsx (h : TWO x y) : ∀ s, 0 ≤ s → s ≤ 3 → VS (x 9 (7 + 2 * s)) (x 9 (8 + 2 * s)) (shX x s) := fun s a b => by
  have q := h.sh s a b
  rw [q.1, q.2, h.shq]
  exact h.vs s a b
theorem TWO.tri (h : TWO x y) (u : Int → Int) : TWO (setc x 1 u) y := h
theorem TWO.thk (h : TWO x y) : TWO x (thinkM y) := h
theorem TWO.thi (h : TWO x y) (P : Prop) [Decidable P] : TWO x (if P then thinkM y else y) := by split <;> exact h
theorem TWO.town (h : TWO x y) {t u : Int → Int} (hE : EQ t u) (hV : VT 99999 u) : TWO (setc x 0 t) (setc y 0 u) := ⟨⟨hE, hV⟩, h.2⟩
theorem TWO.tal (h : TWO x y) (r : Int) : TWO (setc x 4 (tallyP (x 4) r)) (setc y 3 (tallyP (y 3) r)) := by
  rw [h.x4]
  exact ⟨h.1, h.2.1, h.2.2.1, h.2.2.2.1, h.2.2.2.2.1, rfl, h.2.2.2.2.2.2⟩
theorem TWO.fin (h : TWO x y) (r : Int) : TWO (endX x r) (endM y r) := by
  unfold endX endM
  split
  · exact h.tal r
  · exact h
theorem VT_self {d : Int} {t : Int → Int} (h : VT d t) : VT (t 0) t := ⟨⟨h.1.1, Int.le_refl _⟩, h.2⟩
theorem VT_down {d d' : Int} {t : Int → Int} (h : VT d t) (hd : t 0 ≤ d') : VT d' t := ⟨⟨h.1.1, hd⟩, h.2⟩
theorem k_water (h : TWO x y) (w v : Int) : waterR (x 0) w v = waterR (y 0) w v ∧ TWO (endX (if vWater w v then setc x 0 (updI (x 0) (1 + w) v) else x) (waterR (x 0) w v)) (endM (if vWater w v then setc y 0 (updI (y 0) (1 + w) v) else y) (waterR (y 0) w v)) := by
  have e := q_water h.e w v
  refine ⟨e, ?_⟩
  rw [e]
  refine TWO.fin ?_ _
  by_cases q : vWater w v
  · rw [if_pos q, if_pos q]
    refine h.town (h.e.up _ (by omega)) ?_
    rcases (show w = 0 ∨ w = 1 ∨ w = 2 by omega) with z | z | z <;> subst z
    · exact VT_tank h.v (by omega)
    · exact VT_drought h.v (by omega)
    · exact VT_plenty h.v (by omega)
  · rw [if_neg q, if_neg q]; exact h
theorem k_week (h : TWO x y) (k w v : Int) : weekR (x 0) k w v = weekR (y 0) k w v ∧ TWO (endX (if vWeek k w v then setc x 0 (updI (x 0) (5 + 8 * w + k) v) else x) (weekR (x 0) k w v)) (endM (if vWeek k w v then setc y 0 (updI (y 0) (5 + 8 * w + k) v) else y) (weekR (y 0) k w v)) := by
  have e := q_week h.e k w v
  refine ⟨e, ?_⟩
  rw [e]
  refine TWO.fin ?_ _
  by_cases q : vWeek k w v
  · rw [if_pos q, if_pos q]
    refine h.town (h.e.up _ (by omega)) ?_
    rcases (show w = 0 ∨ w = 1 by omega) with z | z <;> subst z
    · exact VT_rainw h.v (by omega) (by omega)
    · exact VT_coldw h.v (by omega) (by omega)
  · rw [if_neg q, if_neg q]; exact h
theorem k_fountain (h : TWO x y) (k : Int) : fountainR (x 0) k = fountainR (y 0) k ∧ TWO (endX (if vKind k ∧ x 0 4 ≠ 8 then setc x 0 (addP (x 0) k) else x) (fountainR (x 0) k)) (endM (if vKind k ∧ y 0 4 ≠ 8 then setc y 0 (newP (y 0) k 10 0 20) else y) (fountainR (y 0) k)) := by
  have e := q_fountain h.e k
  have h4 := h.e.1
  have e4 := h.e.f4
  refine ⟨e, ?_⟩
  rw [e]
  refine TWO.fin ?_ _
  by_cases q : vKind k ∧ y 0 4 ≠ 8
  · rw [if_pos q, if_pos (by rw [e4]; exact q), add_new _ _ (by omega)]
    exact h.town (h.e.new (by omega) _ _ _ _) (VT_new h.v (by omega) q.1 (by decide) (by decide) (by decide))
  · rw [if_neg q, if_neg (by rw [e4]; exact q)]; exact h
theorem k_set (h : TWO x y) (f w v : Int) : setR (x 0) f w v = setR (y 0) f w v ∧ TWO (endX (if vSet (x 0) f w v then setc x 0 (updI (x 0) (21 + 5 * f + w) v) else x) (setR (x 0) f w v)) (endM (if vSet (y 0) f w v then setc y 0 (updI (y 0) (21 + 5 * f + w) v) else y) (setR (y 0) f w v)) := by
  have e := q_set h.e f w v
  have e4 := h.e.f4
  refine ⟨e, ?_⟩
  rw [e]
  refine TWO.fin ?_ _
  by_cases q : vSet (y 0) f w v
  · rw [if_pos q, if_pos (show vSet (x 0) f w v by simp only [vSet, vFou, e4]; exact q)]
    exact h.town (h.e.up _ (by omega)) (VT_fou h.v (by omega) (by omega) (by omega))
  · rw [if_neg q, if_neg (show ¬ vSet (x 0) f w v by simp only [vSet, vFou, e4]; exact q)]; exact h
theorem k_turn (h : TWO x y) (f k : Int) : turnR (x 0) f k = turnR (y 0) f k ∧ TWO (endX (if vFou (x 0) f ∧ vKind k then setc x 0 (updI (x 0) (21 + 5 * f) k) else x) (turnR (x 0) f k)) (endM (if vFou (y 0) f ∧ vKind k then setc y 0 (updI (y 0) (21 + 5 * f) k) else y) (turnR (y 0) f k)) := by
  have e := q_turn h.e f k
  have e4 := h.e.f4
  refine ⟨e, ?_⟩
  rw [e]
  refine TWO.fin ?_ _
  by_cases q : vFou (y 0) f ∧ vKind k
  · rw [if_pos q, if_pos (show vFou (x 0) f ∧ vKind k by simp only [vFou, e4]; exact q)]
    refine h.town (h.e.up _ (by omega)) ?_
    have a := VT_fou h.v (i := f) (f := 0) (v := k) (by omega) (by omega) (by omega)
    rwa [Int.add_zero] at a
  · rw [if_neg q, if_neg (show ¬ (vFou (x 0) f ∧ vKind k) by simp only [vFou, e4]; exact q)]; exact h
theorem k_days (h : TWO x y) (n : Int) : daysR (x 0) n = daysR (y 0) n ∧ TWO (endX (if v100 n ∧ x 0 0 + n ≤ 99999 then setc x 0 (daysP n.toNat (x 0)) else x) (daysR (x 0) n)) (endM (if v100 n ∧ y 0 0 + n ≤ 99999 then setc y 0 (daysP n.toNat (y 0)) else y) (daysR (y 0) n)) := by
  have e := q_days h.e h.v n
  have e0 := h.e.lo (k := 0) (by decide) (by decide)
  refine ⟨e, ?_⟩
  rw [e, e0]
  refine TWO.fin ?_ _
  by_cases q : v100 n ∧ y 0 0 + n ≤ 99999
  · rw [if_pos q, if_pos q]
    exact h.town (h.e.days h.v _) (VT_up (VT_days (VT_self h.v) n.toNat) (by omega))
  · rw [if_neg q, if_neg q]; exact h
/-- the rows 9 and 8 changed at places of the tape -/
theorem u9 {r : Int → Int} {k v s : Int} (hk : k ≤ 6) (hs : 0 ≤ s) : updI r k v (7 + 2 * s) = r (7 + 2 * s) ∧ updI r k v (8 + 2 * s) = r (8 + 2 * s) := ⟨updI_ne _ _ (by omega), updI_ne _ _ (by omega)⟩
theorem k_feed (h : TWO x y) (v n : Int) : feedR (x 9 1) n = feedR (y 8 1) n ∧ TWO (endX (if (1 ≤ n ∧ n ≤ 4) ∧ x 9 1 + n ≤ 120 then setc (setc x 3 (feedP (x 3) (x 9 1) v n n)) 9 (updI (x 9) 1 (x 9 1 + n)) else x) (feedR (x 9 1) n)) (endM (if (1 ≤ n ∧ n ≤ 4) ∧ y 8 1 + n ≤ 120 then setc (setc y 4 (feedP (y 4) (y 8 1) v n n)) 8 (updI (y 8) 1 (y 8 1 + n)) else y) (feedR (y 8 1) n)) := by
  obtain ⟨h1, h2, h3, ⟨h4, h5⟩, ⟨h6, h7⟩, h8, h9, h10, h11⟩ := id h
  rw [h5, h4]
  refine ⟨rfl, TWO.fin ?_ _⟩
  by_cases q : (1 ≤ n ∧ n ≤ 4) ∧ y 8 1 + n ≤ 120
  · rw [if_pos q, if_pos q]
    refine ⟨h1, h2, h3, ⟨rfl, rfl⟩, ⟨?_, ?_⟩, h8, h9, ?_, h11⟩
    · show 0 ≤ y 8 1 + n ∧ y 8 1 + n ≤ 120; omega
    · intro k a b
      have b' : k < y 8 1 + n := b
      show 0 ≤ feedP (y 4) (y 8 1) v n n k ∧ feedP (y 4) (y 8 1) v n n k ≤ 255
      unfold feedP
      split
      · have := byte_in v (n - 1 - (k - y 8 1)).toNat; omega
      · exact h7 k a (by omega)
    · intro s a b
      have c := u9 (r := x 9) (k := 1) (v := y 8 1 + n) (by decide) a
      have e := h10 s a b
      exact ⟨c.1.trans e.1, c.2.trans e.2⟩
  · rw [if_neg q, if_neg q]; exact h
theorem k_wipe (h : TWO x y) : x 9 1 = y 8 1 ∧ TWO (setc x 9 (updI (x 9) 1 0)) (setc y 8 (updI (y 8) 1 0)) := by
  obtain ⟨h1, h2, h3, ⟨h4, h5⟩, ⟨h6, h7⟩, h8, h9, h10, h11⟩ := id h
  refine ⟨h5, h1, h2, h3, ⟨h4, rfl⟩, ⟨?_, ?_⟩, h8, h9, ?_, h11⟩
  · show (0 : Int) ≤ 0 ∧ (0 : Int) ≤ 120; decide
  · intro k a b
    have b' : k < 0 := b
    omega
  · intro s a b
    have c := u9 (r := x 9) (k := 1) (v := 0) (by decide) a
    have e := h10 s a b
    exact ⟨c.1.trans e.1, c.2.trans e.2⟩
theorem k_image (h : TWO x y) : TWO (setc (setc x 2 (hdP (x 2) (x 0) (21 + 5 * (x 0) 4))) 9 (updI (x 9) 0 1)) (setc (setc y 1 (y 0)) 8 (updI (y 8) 0 1)) := by
  obtain ⟨h1, h2, h3, ⟨h4, h5⟩, ⟨h6, h7⟩, h8, h9, h10, h11⟩ := id h
  refine ⟨h1, ⟨rfl, Or.inr rfl⟩, fun _ => ⟨?_, h.v⟩, ⟨h4, h5⟩, ⟨h6, h7⟩, h8, h9, ?_, h11⟩
  · exact (EQ.hd (by rw [h.e.f4]; exact h.e.1)).tr h.e
  · intro s a b
    have c := u9 (r := x 9) (k := 0) (v := 1) (by decide) a
    have e := h10 s a b
    exact ⟨c.1.trans e.1, c.2.trans e.2⟩
theorem k_tear (h : TWO x y) : x 9 0 = y 8 0 ∧ TWO (setc x 9 (updI (x 9) 0 0)) (setc y 8 (updI (y 8) 0 0)) := by
  obtain ⟨h1, h2, h3, ⟨h4, h5⟩, ⟨h6, h7⟩, h8, h9, h10, h11⟩ := id h
  refine ⟨h2.1, h1, ⟨rfl, Or.inl rfl⟩, fun z => absurd (show (0 : Int) = 1 from z) (by decide), ⟨h4, h5⟩, ⟨h6, h7⟩, h8, h9, ?_, h11⟩
  intro s a b
  have c := u9 (r := x 9) (k := 0) (v := 0) (by decide) a
  have e := h10 s a b
  exact ⟨c.1.trans e.1, c.2.trans e.2⟩
theorem k_undo (h : TWO x y) : (if x 9 0 = 0 then -1000000004 else x 2 4) = (if y 8 0 = 0 then -1000000004 else y 1 4) ∧ TWO (if x 9 0 = 0 then setc x 4 (tallyP (x 4) (-1000000004)) else setc x 0 (hdP (x 0) (x 2) (21 + 5 * (x 2) 4))) (if y 8 0 = 0 then setc y 3 (tallyP (y 3) (-1000000004)) else setc y 0 (y 1)) := by
  have h2 := h.2.1
  have h3 := h.2.2.1
  rw [h2.1]
  by_cases q : y 8 0 = 0
  · rw [if_pos q, if_pos q, if_pos q, if_pos q]; exact ⟨rfl, h.tal _⟩
  · rw [if_neg q, if_neg q, if_neg q, if_neg q]
    have a := h3 (by omega)
    exact ⟨a.1.f4, h.town ((EQ.hd (by rw [a.1.f4]; exact a.1.1)).tr a.1) a.2⟩
theorem k_status (h : TWO x y) (w : Int) : statusR (x 4) w = statusR (y 3) w ∧ TWO (if -1 ≤ w ∧ w ≤ 6 then x else setc x 4 (tallyP (x 4) (-1000000001))) (if -1 ≤ w ∧ w ≤ 6 then y else setc y 3 (tallyP (y 3) (-1000000001))) := by
  refine ⟨by rw [h.x4], ?_⟩
  by_cases q : -1 ≤ w ∧ w ≤ 6
  · rw [if_pos q, if_pos q]; exact h
  · rw [if_neg q, if_neg q]; exact h.tal _
theorem k_count (h : TWO x y) (w : Int) : countR (x 0) (x 9 1) w = countR (y 0) (y 8 1) w ∧ TWO (endX x (countR (x 0) (x 9 1) w)) (endM y (countR (y 0) (y 8 1) w)) := by
  have e : countR (x 0) (x 9 1) w = countR (y 0) (y 8 1) w := by rw [h.2.2.2.1.2]; exact q_count h.e _ _
  exact ⟨e, by rw [e]; exact h.fin _⟩
end REL
