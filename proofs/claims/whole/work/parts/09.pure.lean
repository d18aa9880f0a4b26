/-! what the two systems compute, as plain functions of a town t: 0 DAY, 1 TANK, 2 DROUGHT, 3 PLENTY, 4 how many, 5.. RAIN, 13.. COLD, 21 + 5 i: KIND, HIGH, OFF, LOVED, STOOPED -/
theorem narZ {z : Int} (h : z = 0 ∨ z = 1) : narrow .boolean (vI z) = vI z := by rcases h with h | h <;> rw [h] <;> rfl
theorem fitZ {z : Int} (h : z = 0 ∨ z = 1) : fits .boolean (vI z) = true := by rcases h with h | h <;> rw [h] <;> rfl
def VF (t : Int → Int) (i : Int) : Prop := (0 ≤ t (21 + 5 * i) ∧ t (21 + 5 * i) ≤ 5) ∧ (1 ≤ t (21 + 5 * i + 1) ∧ t (21 + 5 * i + 1) ≤ 40) ∧ (0 ≤ t (21 + 5 * i + 2) ∧ t (21 + 5 * i + 2) ≤ 1) ∧ (0 ≤ t (21 + 5 * i + 3) ∧ t (21 + 5 * i + 3) ≤ 99) ∧ (0 ≤ t (21 + 5 * i + 4) ∧ t (21 + 5 * i + 4) ≤ 9999)
def VT (d : Int) (t : Int → Int) : Prop := (0 ≤ t 0 ∧ t 0 ≤ d) ∧ (0 ≤ t 1 ∧ t 1 ≤ 9999) ∧ (0 ≤ t 2 ∧ t 2 ≤ 9999) ∧ (0 ≤ t 3 ∧ t 3 ≤ 9999) ∧ (0 ≤ t 4 ∧ t 4 ≤ 8) ∧ (∀ k, 0 ≤ k → k < 8 → 0 ≤ t (5 + k) ∧ t (5 + k) ≤ 99) ∧ (∀ k, 0 ≤ k → k < 8 → 0 ≤ t (13 + k) ∧ t (13 + k) ≤ 1) ∧ ∀ i, 0 ≤ i → i < t 4 → VF t i
def weekP (t : Int → Int) : Int := t 0 / 7 % 8
def coldP (t : Int → Int) : Int := if t (13 + weekP t) = 1 then 1 else 0
def goP (t : Int → Int) (i : Int) : Int :=
  if t (21 + 5 * i) = 1 then t (21 + 5 * i + 1) * 2 else if t (21 + 5 * i) = 2 then max 1 (t (21 + 5 * i + 1) / 2) else if t (21 + 5 * i) = 3 then 2 else if t (21 + 5 * i) = 4 then max 0 (t (21 + 5 * i + 1) * 2 - t (21 + 5 * i + 3) / 20) else if t (21 + 5 * i) = 5 then 1 else t (21 + 5 * i + 1)
def stillP (t : Int → Int) (i : Int) : Prop := t (21 + 5 * i + 2) = 1 ∧ t (21 + 5 * i) ≠ 5
def usesP (t : Int → Int) (i c : Int) : Int := if t (21 + 5 * i + 2) = 1 ∧ t (21 + 5 * i) ≠ 5 then 0 else if c = 1 then goP t i / 2 else goP t i
def soundP (t : Int → Int) (i : Int) : Int :=
  if t (21 + 5 * i) = 1 then t (21 + 5 * i + 1) + 10 else if t (21 + 5 * i) = 2 then t (21 + 5 * i + 1) / 2 + 5 else if t (21 + 5 * i) = 3 then 1 else if t (21 + 5 * i) = 4 then t (21 + 5 * i + 1) + 10 else if t (21 + 5 * i) = 5 then 1 + t (21 + 5 * i + 3) / 10 else t (21 + 5 * i + 1)
def heardP (t : Int → Int) (i : Int) : Int := if t (21 + 5 * i + 2) = 1 ∧ t (21 + 5 * i) ≠ 5 then 0 else soundP t i
def gainsP (t : Int → Int) (i c : Int) : Int :=
  if t (21 + 5 * i) = 1 then (if 30 < t (21 + 5 * i + 1) then 0 else if t (21 + 5 * i + 2) = 1 then -1 else 1)
  else if t (21 + 5 * i) = 2 then 1
  else if t (21 + 5 * i) = 3 then (if t (21 + 5 * i + 2) = 1 then -1 else 1) + (if c = 1 then 0 else 1)
  else if t (21 + 5 * i) = 4 then (if 30 < t (21 + 5 * i + 1) then 0 else if t (21 + 5 * i + 2) = 1 then -1 else 1) - 1
  else if t (21 + 5 * i) = 5 then max 0 ((if t (21 + 5 * i + 2) = 1 then -1 else 1) + (if c = 1 then 0 else 1))
  else if t (21 + 5 * i + 2) = 1 then -1 else 1
def givesP (t : Int → Int) (i : Int) : Int :=
  if t (21 + 5 * i) = 1 then t (21 + 5 * i + 1) - t (21 + 5 * i + 3) - 20 else if t (21 + 5 * i) = 3 then -200 - t (21 + 5 * i + 3) else if t (21 + 5 * i) = 4 then t (21 + 5 * i + 1) - t (21 + 5 * i + 3) - 15 else if t (21 + 5 * i) = 5 then -400 - t (21 + 5 * i + 3) else t (21 + 5 * i + 1) - t (21 + 5 * i + 3)
/-- sums over the first n -/
def sumP (f : Int → Int) : Nat → Int
  | 0 => 0
  | n + 1 => sumP f n + f n
def noiseP (t : Int → Int) : Int := sumP (heardP t) (t 4).toNat
def allUseP (t : Int → Int) : Int := sumP (fun i => usesP t i (coldP t)) (t 4).toNat
def stoopedP (t : Int → Int) : Int := sumP (fun i => t (21 + 5 * i + 4)) (t 4).toNat
def offsP (t : Int → Int) : Int := sumP (fun i => t (21 + 5 * i + 2) * 2 ^ i.toNat) (t 4).toNat
/-- of the first n that are on (off 0) or off (off 1) the one that gives way most, or least, the least of several; -1: none -/
def bestP (t : Int → Int) (off most : Int) : Nat → Int
  | 0 => -1
  | n + 1 => if t (21 + 5 * (n : Int) + 2) = off ∧ (bestP t off most n < 0 ∨ (most = 1 ∧ givesP t (bestP t off most n) < givesP t n) ∨ (most ≠ 1 ∧ givesP t n < givesP t (bestP t off most n))) then n else bestP t off most n
def stoopP (t : Int → Int) (i : Int) : Int → Int := updI (updI t (21 + 5 * i + 2) 1) (21 + 5 * i + 4) (min 9999 (t (21 + 5 * i + 4) + 1))
def committeeP (t : Int → Int) : Int → Int :=
  if t 1 < t 2 then (if bestP t 0 1 (t 4).toNat = -1 then t else stoopP t (bestP t 0 1 (t 4).toNat))
  else if t 3 ≤ t 1 then (if bestP t 1 0 (t 4).toNat = -1 then t else updI t (21 + 5 * bestP t 1 0 (t 4).toNat + 2) 0)
  else t
def flowP (c : Int) (t : Int → Int) (i : Int) : Int → Int :=
  if usesP t i c ≤ t 1 then updI t 1 (t 1 - usesP t i c) else if t (21 + 5 * i) = 5 then t else stoopP t i
def gainP (c : Int) (t : Int → Int) (i : Int) : Int → Int := updI t (21 + 5 * i + 3) (max 0 (min 99 (t (21 + 5 * i + 3) + gainsP t i c)))
def flowsP (c : Int) (t : Int → Int) : Nat → Int → Int
  | 0 => t
  | n + 1 => flowP c (flowsP c t n) n
def gainsAllP (c : Int) (t : Int → Int) : Nat → Int → Int
  | 0 => t
  | n + 1 => gainP c (gainsAllP c t n) n
def rainedP (t : Int → Int) : Int → Int := updI t 1 (min 9999 (t 1 + t (5 + weekP t)))
def eveP (t : Int → Int) : Int → Int := gainsAllP (coldP t) (flowsP (coldP t) (committeeP (rainedP t)) (t 4).toNat) (t 4).toNat
def dayP (t : Int → Int) : Int → Int := updI (eveP t) 0 (t 0 + 1)
def daysP : Nat → (Int → Int) → Int → Int
  | 0, t => t
  | n + 1, t => dayP (daysP n t)
abbrev VV (t : Int → Int) : Prop := VT 2000000 t
theorem VT_up {d d' : Int} {t : Int → Int} (h : VT d t) (hd : d ≤ d') : VT d' t := ⟨⟨h.1.1, by have := h.1.2; omega⟩, h.2⟩
/-- the same but for what flows and how they are -/
def FR (t t' : Int → Int) : Prop := t' 0 = t 0 ∧ t' 2 = t 2 ∧ t' 3 = t 3 ∧ t' 4 = t 4 ∧ ∀ k, 5 ≤ k → k < 21 → t' k = t k
theorem FR.rf {t : Int → Int} : FR t t := ⟨rfl, rfl, rfl, rfl, fun _ _ _ => rfl⟩
theorem FR.tr {a b c : Int → Int} (h : FR a b) (g : FR b c) : FR a c := ⟨g.1.trans h.1, g.2.1.trans h.2.1, g.2.2.1.trans h.2.2.1, g.2.2.2.1.trans h.2.2.2.1, fun k h1 h2 => (g.2.2.2.2 k h1 h2).trans (h.2.2.2.2 k h1 h2)⟩
theorem FR_tank (t : Int → Int) (v : Int) : FR t (updI t 1 v) := ⟨rfl, rfl, rfl, rfl, fun k h1 h2 => updI_ne _ _ (by omega)⟩
theorem FR_fou (t : Int → Int) {k : Int} (v : Int) (h : 21 ≤ k) : FR t (updI t k v) := ⟨updI_ne _ _ (by omega), updI_ne _ _ (by omega), updI_ne _ _ (by omega), updI_ne _ _ (by omega), fun k h1 h2 => updI_ne _ _ (by omega)⟩
theorem week_in {d : Int} {t : Int → Int} (h : VT d t) : 0 ≤ weekP t ∧ weekP t < 8 := by have := h.1; unfold weekP; omega
theorem FR.week {t t' : Int → Int} (h : FR t t') : weekP t' = weekP t := by unfold weekP; rw [h.1]
theorem FR.cold {t t' : Int → Int} (h : FR t t') {d : Int} (hV : VT d t) : coldP t' = coldP t := by
  have := week_in hV
  unfold coldP
  rw [h.week, h.2.2.2.2 _ (by omega) (by omega)]
theorem cold_in (t : Int → Int) : coldP t = 0 ∨ coldP t = 1 := by unfold coldP; omega
/-- a town stays sound -/
theorem VT_of_FR {d : Int} {t t' : Int → Int} (hV : VT d t) (h : FR t t') (h1 : 0 ≤ t' 1 ∧ t' 1 ≤ 9999) (hF : ∀ i, 0 ≤ i → i < t 4 → VF t' i) : VT d t' := by
  obtain ⟨v0, v1, v2, v3, v4, v5, v6, v7⟩ := hV
  obtain ⟨f0, f2, f3, f4, f5⟩ := h
  refine ⟨by rw [f0]; exact v0, h1, by rw [f2]; exact v2, by rw [f3]; exact v3, by rw [f4]; exact v4, fun k a b => ?_, fun k a b => ?_, fun i a b => hF i a (by rw [← f4]; exact b)⟩
  · rw [f5 _ (by omega) (by omega)]; exact v5 k a b
  · rw [f5 _ (by omega) (by omega)]; exact v6 k a b
theorem VF_upd {t : Int → Int} {i k v : Int} (h : VF t i) (hk : k < 21 + 5 * i ∨ 21 + 5 * i + 4 < k) : VF (updI t k v) i := by
  obtain ⟨a, b, c, d, e⟩ := h
  unfold VF
  rw [updI_ne _ _ (by omega), updI_ne _ _ (by omega), updI_ne _ _ (by omega), updI_ne _ _ (by omega), updI_ne _ _ (by omega)]
  exact ⟨a, b, c, d, e⟩
theorem VF_tank {t : Int → Int} {i v : Int} (h : VF t i) (hi : 0 ≤ i) : VF (updI t 1 v) i := VF_upd h (Or.inl (by omega))
theorem VT_tank {d : Int} {t : Int → Int} {v : Int} (h : VT d t) (hv : 0 ≤ v ∧ v ≤ 9999) : VT d (updI t 1 v) :=
  VT_of_FR h (FR_tank t v) (by rw [updI_at]; exact hv) (fun i a b => VF_tank (h.2.2.2.2.2.2.2 i a b) a)
/-- a fountain's number changed, within its bounds -/
theorem VT_fou {d : Int} {t : Int → Int} {i f v : Int} (h : VT d t) (hi : 0 ≤ i) (hf : 0 ≤ f ∧ f ≤ 4) (hv : (f = 0 → 0 ≤ v ∧ v ≤ 5) ∧ (f = 1 → 1 ≤ v ∧ v ≤ 40) ∧ (f = 2 → 0 ≤ v ∧ v ≤ 1) ∧ (f = 3 → 0 ≤ v ∧ v ≤ 99) ∧ (f = 4 → 0 ≤ v ∧ v ≤ 9999)) : VT d (updI t (21 + 5 * i + f) v) := by
  refine VT_of_FR h (FR_fou t v (by omega)) (by rw [updI_ne _ _ (by omega)]; exact h.2.1) (fun q a b => ?_)
  have hq := h.2.2.2.2.2.2.2 q a b
  by_cases e : q = i
  · subst e
    obtain ⟨k1, k2, k3, k4, k5⟩ := hq
    obtain ⟨v0, v1, v2, v3, v4⟩ := hv
    unfold VF
    simp only [updI_app]
    refine ⟨?_, ?_, ?_, ?_, ?_⟩ <;> split <;> first | omega | (have hh : f = 0 := by omega); first | exact v0 hh | omega | skip
    all_goals omega
  · exact VF_upd hq (by omega)
theorem VT_rained {d : Int} {t : Int → Int} (h : VT d t) : VT d (rainedP t) := by
  have hw := week_in h
  have h5 := h.2.2.2.2.2.1 (weekP t) hw.1 hw.2
  have h1 := h.2.1
  exact VT_tank h (by omega)
theorem FR_rained (t : Int → Int) : FR t (rainedP t) := FR_tank _ _
theorem FR_stoop {t : Int → Int} {i : Int} (hi : 0 ≤ i) : FR t (stoopP t i) := (FR_fou t _ (by omega)).tr (FR_fou _ _ (by omega))
theorem VT_stoop {d : Int} {t : Int → Int} {i : Int} (h : VT d t) (hi : 0 ≤ i) (h4 : i < t 4) : VT d (stoopP t i) := by
  have hF := h.2.2.2.2.2.2.2 i hi h4
  obtain ⟨k1, k2, k3, k4, k5⟩ := hF
  exact VT_fou (VT_fou h hi (f := 2) (by omega) (by omega)) hi (f := 4) (by omega) (by omega)
theorem best_in (t : Int → Int) (o m : Int) (n : Nat) : -1 ≤ bestP t o m n ∧ bestP t o m n < n := by
  induction n with
  | zero => simp [bestP]
  | succ n ih => simp only [bestP]; omega
theorem VT_committee {d : Int} {t : Int → Int} (h : VT d t) : VT d (committeeP t) ∧ FR t (committeeP t) := by
  have h4 := h.2.2.2.2.1
  have b1 := best_in t 0 1 (t 4).toNat
  have b2 := best_in t 1 0 (t 4).toNat
  unfold committeeP
  split
  · split
    · exact ⟨h, FR.rf⟩
    · exact ⟨VT_stoop h (by omega) (by omega), FR_stoop (by omega)⟩
  · split
    · split
      · exact ⟨h, FR.rf⟩
      · exact ⟨VT_fou h (f := 2) (by omega) (by omega) (by omega), FR_fou _ _ (by omega)⟩
    · exact ⟨h, FR.rf⟩
theorem uses_in {t : Int → Int} {i c : Int} (h : VF t i) : 0 ≤ usesP t i c ∧ usesP t i c ≤ 80 := by
  obtain ⟨k1, k2, k3, k4, k5⟩ := h
  simp only [usesP, goP]
  omega
theorem gains_in {t : Int → Int} {i c : Int} : -2 ≤ gainsP t i c ∧ gainsP t i c ≤ 2 := by
  simp only [gainsP]
  omega
theorem VT_flow {d c : Int} {t : Int → Int} {i : Int} (h : VT d t) (hi : 0 ≤ i) (h4 : i < t 4) : VT d (flowP c t i) ∧ FR t (flowP c t i) := by
  have hu := uses_in (c := c) (h.2.2.2.2.2.2.2 i hi h4)
  have h1 := h.2.1
  unfold flowP
  split
  · exact ⟨VT_tank h (by omega), FR_tank _ _⟩
  · split
    · exact ⟨h, FR.rf⟩
    · exact ⟨VT_stoop h hi h4, FR_stoop hi⟩
theorem VT_gain {d c : Int} {t : Int → Int} {i : Int} (h : VT d t) (hi : 0 ≤ i) : VT d (gainP c t i) ∧ FR t (gainP c t i) :=
  ⟨VT_fou h (f := 3) hi (by omega) (by omega), FR_fou _ _ (by omega)⟩
theorem VT_flows {d c : Int} {t : Int → Int} (h : VT d t) (n : Nat) (hn : n ≤ t 4) : VT d (flowsP c t n) ∧ FR t (flowsP c t n) := by
  induction n with
  | zero => exact ⟨h, FR.rf⟩
  | succ n ih =>
    obtain ⟨a, b⟩ := ih (by omega)
    have q := VT_flow (c := c) a (i := n) (by omega) (by rw [b.2.2.2.1]; omega)
    exact ⟨q.1, b.tr q.2⟩
theorem VT_gains {d c : Int} {t : Int → Int} (h : VT d t) (n : Nat) : VT d (gainsAllP c t n) ∧ FR t (gainsAllP c t n) := by
  induction n with
  | zero => exact ⟨h, FR.rf⟩
  | succ n ih =>
    obtain ⟨a, b⟩ := ih
    have q := VT_gain (c := c) a (i := n) (by omega)
    exact ⟨q.1, b.tr q.2⟩
theorem VT_eve {d : Int} {t : Int → Int} (h : VT d t) : VT d (eveP t) ∧ FR t (eveP t) := by
  have c1 := VT_committee (VT_rained h)
  have f1 : FR t (committeeP (rainedP t)) := (FR_rained t).tr c1.2
  have h4 := h.2.2.2.2.1
  have c2 := VT_flows (c := coldP t) c1.1 (t 4).toNat (by rw [f1.2.2.2.1]; omega)
  have c3 := VT_gains (c := coldP t) c2.1 (t 4).toNat
  exact ⟨c3.1, (f1.tr c2.2).tr c3.2⟩
theorem VT_day {d : Int} {t : Int → Int} (h : VT d t) : VT (d + 1) (dayP t) := by
  have e := VT_eve h
  have h0 := h.1
  obtain ⟨v0, v1, v2, v3, v4, v5, v6, v7⟩ := e.1
  unfold dayP
  refine ⟨by rw [updI_at]; omega, v1, v2, v3, v4, fun k a b => ?_, fun k a b => ?_, fun i a b => VF_upd (v7 i a b) (Or.inl (by omega))⟩
  · rw [updI_ne _ _ (by omega)]; exact v5 k a b
  · rw [updI_ne _ _ (by omega)]; exact v6 k a b
theorem VT_days {d : Int} {t : Int → Int} (h : VT d t) (n : Nat) : VT (d + n) (daysP n t) := by
  induction n with
  | zero => exact VT_up h (by omega)
  | succ n ih => exact VT_up (VT_day ih) (by omega)
theorem day_4 {d : Int} {t : Int → Int} (h : VT d t) : dayP t 4 = t 4 := by
  have e := (VT_eve h).2.2.2.2.1
  unfold dayP
  rw [updI_ne _ _ (by decide)]
  exact e
theorem sum_app (f : Int → Int) (n : Nat) : sumP f (n + 1) = sumP f n + f n := rfl
/-- findings are counted -/
def tallyP (u : Int → Int) (f : Int) : Int → Int := updI u (-1000000001 - f) (u (-1000000001 - f) + 1)
theorem rowI_ext {t u : Int → Int} {b : Int} {n : Nat} (h : ∀ k, b ≤ k → k < b + n → t k = u k) : rowI t b n = rowI u b n := by
  funext k
  simp only [rowI]
  split
  · rw [h _ (by omega) (by omega)]
  · rfl
def mixP (f g : Int → Int) (k : Int) : Int → Int := fun i => if i < k then f i else g i
