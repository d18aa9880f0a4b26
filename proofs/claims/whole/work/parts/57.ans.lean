/-! towns that are the same answer the same -/
section ANS
variable {t u : Int → Int} {d : Int}
theorem q_water (h : EQ t u) (w v : Int) : waterR t w v = waterR u w v := by
  unfold waterR
  by_cases q : vWater w v
  · rw [if_pos q, if_pos q, h.lo (by omega) (by omega)]
  · rw [if_neg q, if_neg q]
theorem q_week (h : EQ t u) (k w v : Int) : weekR t k w v = weekR u k w v := by
  unfold weekR
  by_cases q : vWeek k w v
  · rw [if_pos q, if_pos q, h.lo (by omega) (by omega)]
  · rw [if_neg q, if_neg q]
theorem q_now (h : EQ t u) (hV : VT d u) (w : Int) : nowR t w = nowR u w := by
  have hw := week_in hV
  have h4 := h.1
  unfold nowR
  rw [h.week, h.noise, h.allUse hV, h.f4, h.lo (k := 0) (by decide) (by decide), h.lo (k := 1) (by decide) (by decide), h.lo (k := 2) (by decide) (by decide), h.lo (k := 3) (by decide) (by decide), h.lo (k := 5 + weekP u) (by omega) (by omega), h.lo (k := 13 + weekP u) (by omega) (by omega), h.offs (u 4).toNat (by omega)]
theorem q_fountain (h : EQ t u) (k : Int) : fountainR t k = fountainR u k := by unfold fountainR; rw [h.f4]
theorem q_of (h : EQ t u) (hV : VT d u) (f w : Int) : ofR t f w = ofR u f w := by
  simp only [ofR, vFou, h.f4]
  by_cases q : (0 ≤ f ∧ f < u 4) ∧ 0 ≤ w ∧ w ≤ 8
  · rw [if_pos q, if_pos q, h.cold hV, h.uses q.1, h.heard q.1, h.gains q.1, h.gives q.1]
    by_cases a5 : w = 5
    · rw [if_pos a5, if_pos a5]
    rw [if_neg a5, if_neg a5]
    by_cases a6 : w = 6
    · rw [if_pos a6, if_pos a6]
    rw [if_neg a6, if_neg a6]
    by_cases a7 : w = 7
    · rw [if_pos a7, if_pos a7]
    rw [if_neg a7, if_neg a7]
    by_cases a8 : w = 8
    · rw [if_pos a8, if_pos a8]
    rw [if_neg a8, if_neg a8]
    exact h.fo q.1 (by omega)
  · rw [if_neg q, if_neg q]
theorem q_set (h : EQ t u) (f w v : Int) : setR t f w v = setR u f w v := by
  simp only [setR, vSet, vFou, h.f4]
  by_cases q : (0 ≤ f ∧ f < u 4) ∧ 1 ≤ w ∧ w ≤ 4 ∧ (if w = 1 then 1 else 0) ≤ v ∧ v ≤ (if w = 1 then 40 else if w = 2 then 1 else if w = 3 then 99 else 9999)
  · rw [if_pos q, if_pos q]; exact h.fo q.1 (by omega)
  · rw [if_neg q, if_neg q]
theorem q_turn (h : EQ t u) (f k : Int) : turnR t f k = turnR u f k := by
  simp only [turnR, vFou, h.f4]
  by_cases q : (0 ≤ f ∧ f < u 4) ∧ vKind k
  · rw [if_pos q, if_pos q]; exact h.f0 q.1
  · rw [if_neg q, if_neg q]
theorem q_as (h : EQ t u) (f k : Int) : asR t f k = asR u f k := by
  simp only [asR, vFou, h.f4]
  by_cases q : (0 ≤ f ∧ f < u 4) ∧ vKind k
  · rw [if_pos q, if_pos q, h.f0 q.1, h.fo (f := 3) q.1 (by omega)]
  · rw [if_neg q, if_neg q]
theorem q_next (h : EQ t u) : nextR t = nextR u := by
  have h4 := h.1
  unfold nextR
  rw [h.f4, h.best 0 1 _ (by omega)]
theorem q_days (h : EQ t u) (hV : VT d u) (n : Int) : daysR t n = daysR u n := by
  unfold daysR
  rw [h.lo (k := 0) (by decide) (by decide), (h.days hV n.toNat).lo (k := 1) (by decide) (by decide)]
theorem q_on (h : EQ t u) (hV : VT d u) (n w : Int) : onR t n w = onR u n w := by
  have e := h.days hV n.toNat
  have h4 := e.1
  unfold onR onV
  rw [e.lo (k := 1) (by decide) (by decide), e.noise, e.f4, e.offs _ (by omega)]
theorem q_then (h : EQ t u) (hV : VT d u) (f n w : Int) : thenR t f n w = thenR u f n w := by
  simp only [thenR, vFou, h.f4]
  by_cases q : (0 ≤ f ∧ f < u 4) ∧ v400 n ∧ 0 ≤ w ∧ w ≤ 2
  · rw [if_pos q, if_pos q]; exact (h.days hV n.toNat).fo (by rw [days_4 hV]; exact q.1) (by omega)
  · rw [if_neg q, if_neg q]
theorem q_falls (h : EQ t u) (hV : VT d u) (v : Int) : fallsR t v = fallsR u v := by unfold fallsR; rw [EQ_falls v 401 h hV]
theorem q_off (h : EQ t u) (hV : VT d u) (f : Int) : offR t f = offR u f := by
  simp only [offR, vFou, h.f4]
  by_cases q : 0 ≤ f ∧ f < u 4
  · rw [if_pos q, if_pos q, EQ_off 401 h hV q]
  · rw [if_neg q, if_neg q]
theorem q_quiet (h : EQ t u) (hV : VT d u) : quietR t = quietR u := by unfold quietR; rw [EQ_quiet 401 h hV]
theorem EQ_bo (h : EQ t u) (hV : VT d u) (n k : Nat) (hk : k ≤ u 4) : boF t n k = boF u n k := by
  induction k with
  | zero => rfl
  | succ k ih =>
    have hi : 0 ≤ (k : Int) ∧ (k : Int) < u 4 := by omega
    have a := h.up (k := 21 + 5 * (k : Int) + 2) 1 (by omega)
    have b : VT d (updI u (21 + 5 * (k : Int) + 2) 1) := VT_fou hV (f := 2) (by omega) (by omega) (by omega)
    simp only [boF]
    rw [ih (by omega), h.fo hi (f := 2) (by omega), (a.days b n).lo (k := 1) (by decide) (by decide)]
theorem q_best (h : EQ t u) (hV : VT d u) (n : Int) : bestR t n = bestR u n := by
  have h4 := h.1
  unfold bestR
  rw [h.f4, EQ_bo h hV _ _ (by omega)]
theorem EQ_high (h : EQ t u) (hV : VT d u) {f : Int} (hf : 0 ≤ f ∧ f < u 4) (n k : Nat) (hk : k ≤ 40) : highF t f n k = highF u f n k := by
  induction k with
  | zero => rfl
  | succ k ih =>
    have a := h.up (k := 21 + 5 * f + 1) ((k : Int) + 1) (by omega)
    have b : VT d (updI u (21 + 5 * f + 1) ((k : Int) + 1)) := VT_fou hV (f := 1) (by omega) (by omega) (by omega)
    simp only [highF]
    rw [ih (by omega), a.stays b (by rw [updI_ne _ _ (by omega)]; exact hf) n]
theorem q_high (h : EQ t u) (hV : VT d u) (f n : Int) : highR t f n = highR u f n := by
  simp only [highR, vFou, h.f4]
  by_cases q : (0 ≤ f ∧ f < u 4) ∧ v100 n
  · rw [if_pos q, if_pos q, EQ_high h hV q.1 _ 40 (by decide)]
  · rw [if_neg q, if_neg q]
theorem EQ_loved (h : EQ t u) (hV : VT d u) {f : Int} (hf : 0 ≤ f ∧ f < u 4) (n k : Nat) (hk : k ≤ 100) : lovedF t f n k = lovedF u f n k := by
  induction k with
  | zero => rfl
  | succ k ih =>
    have a := h.up (k := 21 + 5 * f + 3) (99 - (k : Int)) (by omega)
    have b : VT d (updI u (21 + 5 * f + 3) (99 - (k : Int))) := VT_fou hV (f := 3) (by omega) (by omega) (by omega)
    simp only [lovedF]
    rw [ih (by omega), a.stays b (by rw [updI_ne _ _ (by omega)]; exact hf) n]
theorem q_loved (h : EQ t u) (hV : VT d u) (f n : Int) : lovedR t f n = lovedR u f n := by
  simp only [lovedR, vFou, h.f4]
  by_cases q : (0 ≤ f ∧ f < u 4) ∧ v100 n
  · rw [if_pos q, if_pos q, EQ_loved h hV q.1 _ 100 (by decide)]
  · rw [if_neg q, if_neg q]
theorem EQ_kd (h : EQ t u) (hV : VT d u) {f : Int} (hf : 0 ≤ f ∧ f < u 4) (k : Nat) (hk : k ≤ 6) : kdF t f k = kdF u f k := by
  induction k with
  | zero => rfl
  | succ k ih =>
    have a := h.up (k := 21 + 5 * f) (k : Int) (by omega)
    have b : VT d (updI u (21 + 5 * f) (k : Int)) := by
      have q := VT_fou hV (i := f) (f := 0) (v := (k : Int)) (by omega) (by omega) (by omega)
      rwa [Int.add_zero] at q
    simp only [kdF]
    rw [ih (by omega), EQ_off 401 a b (by rw [updI_ne _ _ (by omega)]; exact hf)]
theorem q_kind (h : EQ t u) (hV : VT d u) (f : Int) : kindR t f = kindR u f := by
  simp only [kindR, vFou, h.f4]
  by_cases q : 0 ≤ f ∧ f < u 4
  · rw [if_pos q, if_pos q, EQ_kd h hV q 6 (by decide)]
  · rw [if_neg q, if_neg q]
theorem EQ_rn (h : EQ t u) (hV : VT d u) (n k : Nat) (hk : k ≤ 8) : rnF t n k = rnF u n k := by
  induction k with
  | zero => rfl
  | succ k ih =>
    have v5 := hV.2.2.2.2.2.1 k (by omega) (by omega)
    have a := h.up (k := 5 + (k : Int)) (min 99 (u (5 + (k : Int)) + 10)) (by omega)
    have b : VT d (updI u (5 + (k : Int)) (min 99 (u (5 + (k : Int)) + 10))) := VT_rainw hV (by omega) (by omega)
    simp only [rnF]
    rw [ih (by omega), h.lo (k := 5 + (k : Int)) (by omega) (by omega), (a.days b n).noise]
theorem q_rain (h : EQ t u) (hV : VT d u) (n : Int) : rainR t n = rainR u n := by unfold rainR; rw [EQ_rn h hV _ 8 (by decide)]
theorem EQ_en (h : EQ t u) (hV : VT d u) (n k : Nat) (hk : k ≤ 1000) : enF t n k = enF u n k := by
  induction k with
  | zero => rfl
  | succ k ih =>
    have a := h.up (k := 1) (9990 - 10 * (k : Int)) (by decide)
    have b : VT d (updI u 1 (9990 - 10 * (k : Int))) := VT_tank hV (by omega)
    simp only [enF]
    rw [ih (by omega), (a.days b n).stooped, h.stooped]
theorem q_enough (h : EQ t u) (hV : VT d u) (n : Int) : enoughR t n = enoughR u n := by unfold enoughR; rw [EQ_en h hV _ 1000 (by decide)]
theorem EQ_ru (h : EQ t u) (hV : VT d u) (n k : Nat) (hk : k ≤ 21) : ruF t n k = ruF u n k := by
  induction k with
  | zero => rfl
  | succ k ih =>
    have a := h.up (k := 2) (50 * (k : Int)) (by decide)
    have b : VT d (updI u 2 (50 * (k : Int))) := VT_drought hV (by omega)
    simp only [ruF]
    rw [ih (by omega), (a.days b n).stooped]
theorem q_rule (h : EQ t u) (hV : VT d u) (n : Int) : ruleR t n = ruleR u n := by unfold ruleR; rw [EQ_ru h hV _ 21 (by decide)]
theorem q_read (h : EQ t u) (hV : VT d u) (b z : Int) (w : Int → Int) (s f : Int) : readR b z w t s f = readR b z w u s f := by
  simp only [readR, vFou, h.f4]
  by_cases q : 0 ≤ f ∧ f < u 4
  · rw [if_pos q, if_pos q]
    have e : manyP w t f z 240 = manyP w u f z 240 := by
      unfold manyP
      refine sum_eq 240 (fun k a b => ?_)
      have c : EQ (asP t f k) (asP u f k) := (h.up _ (by omega)).up _ (by omega)
      exact c.bk (VT_as hV q.1 ⟨a, by omega⟩) _
    rw [e]
  · rw [if_neg q, if_neg q]
theorem q_count (h : EQ t u) (n w : Int) : countR t n w = countR u n w := by
  have h4 := h.1
  unfold countR
  rw [h.f4, h.offs _ (by omega), h.stooped]
end ANS
