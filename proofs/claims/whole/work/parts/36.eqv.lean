/-! towns that are the same as far as they have fountains -/
def EQ (t u : Int → Int) : Prop := (0 ≤ u 4 ∧ u 4 ≤ 8) ∧ ∀ k, 0 ≤ k → k < 21 + 5 * u 4 → t k = u k
theorem EQ.f4 {t u : Int → Int} (h : EQ t u) : t 4 = u 4 := h.2 4 (by decide) (by have := h.1; omega)
theorem EQ.lo {t u : Int → Int} (h : EQ t u) {k : Int} (h0 : 0 ≤ k) (h1 : k < 21) : t k = u k := h.2 k h0 (by have := h.1; omega)
theorem EQ.fo {t u : Int → Int} (h : EQ t u) {i f : Int} (hi : 0 ≤ i ∧ i < u 4) (hf : 0 ≤ f ∧ f ≤ 4) : t (21 + 5 * i + f) = u (21 + 5 * i + f) := h.2 _ (by omega) (by omega)
theorem EQ.f0 {t u : Int → Int} (h : EQ t u) {i : Int} (hi : 0 ≤ i ∧ i < u 4) : t (21 + 5 * i) = u (21 + 5 * i) := h.2 _ (by omega) (by omega)
theorem EQ.rf {t : Int → Int} (h : 0 ≤ t 4 ∧ t 4 ≤ 8) : EQ t t := ⟨h, fun _ _ _ => rfl⟩
theorem EQ.sy {t u : Int → Int} (h : EQ t u) : EQ u t := ⟨by rw [h.f4]; exact h.1, fun k a b => (h.2 k a (by rw [← h.f4]; exact b)).symm⟩
theorem EQ.tr {t u w : Int → Int} (h : EQ t u) (g : EQ u w) : EQ t w := ⟨g.1, fun k a b => (h.2 k a (by rw [g.f4]; exact b)).trans (g.2 k a b)⟩
theorem EQ.up {t u : Int → Int} (h : EQ t u) {k : Int} (v : Int) (hk : k ≠ 4) : EQ (updI t k v) (updI u k v) := by
  have e : updI u k v 4 = u 4 := updI_ne _ _ (fun q => hk q.symm)
  refine ⟨by rw [e]; exact h.1, fun q a b => ?_⟩
  rw [e] at b
  simp only [updI_app]
  split
  · rfl
  · exact h.2 q a b
theorem EQ.hd {t u : Int → Int} (h : 0 ≤ u 4 ∧ u 4 ≤ 8) : EQ (hdP t u (21 + 5 * u 4)) u := ⟨h, fun k a b => by simp only [hdP]; rw [if_pos ⟨a, b⟩]⟩
theorem EQ.week {t u : Int → Int} (h : EQ t u) : weekP t = weekP u := by unfold weekP; rw [h.lo (by decide) (by decide)]
theorem EQ.cold {d : Int} {t u : Int → Int} (h : EQ t u) (hV : VT d u) : coldP t = coldP u := by
  have := week_in hV
  unfold coldP
  rw [h.week, h.lo (by omega) (by omega)]
section EQF
variable {t u : Int → Int} {i : Int}
theorem EQ.uses (h : EQ t u) (hi : 0 ≤ i ∧ i < u 4) (c : Int) : usesP t i c = usesP u i c := by
  have e0 := h.f0 hi
  have e1 := h.fo hi (f := 1) (by omega)
  have e2 := h.fo hi (f := 2) (by omega)
  have e3 := h.fo hi (f := 3) (by omega)
  simp only [usesP, goP, e0, e1, e2, e3]
theorem EQ.heard (h : EQ t u) (hi : 0 ≤ i ∧ i < u 4) : heardP t i = heardP u i := by
  have e0 := h.f0 hi
  have e1 := h.fo hi (f := 1) (by omega)
  have e2 := h.fo hi (f := 2) (by omega)
  have e3 := h.fo hi (f := 3) (by omega)
  simp only [heardP, soundP, e0, e1, e2, e3]
theorem EQ.gains (h : EQ t u) (hi : 0 ≤ i ∧ i < u 4) (c : Int) : gainsP t i c = gainsP u i c := by
  have e0 := h.f0 hi
  have e1 := h.fo hi (f := 1) (by omega)
  have e2 := h.fo hi (f := 2) (by omega)
  simp only [gainsP, e0, e1, e2]
theorem EQ.gives (h : EQ t u) (hi : 0 ≤ i ∧ i < u 4) : givesP t i = givesP u i := by
  have e0 := h.f0 hi
  have e1 := h.fo hi (f := 1) (by omega)
  have e3 := h.fo hi (f := 3) (by omega)
  simp only [givesP, e0, e1, e3]
theorem sum_eq {f g : Int → Int} (n : Nat) (h : ∀ i : Int, 0 ≤ i → i < n → f i = g i) : sumP f n = sumP g n := by
  induction n with
  | zero => rfl
  | succ n ih => simp only [sumP]; rw [ih (fun i a b => h i a (by omega)), h n (by omega) (by omega)]
theorem EQ.noise (h : EQ t u) : noiseP t = noiseP u := by
  have := h.1
  unfold noiseP; rw [h.f4]
  exact sum_eq _ (fun i a b => h.heard ⟨a, by omega⟩)
theorem EQ.allUse {d : Int} (h : EQ t u) (hV : VT d u) : allUseP t = allUseP u := by
  have := h.1
  unfold allUseP; rw [h.f4, h.cold hV]
  exact sum_eq _ (fun i a b => h.uses ⟨a, by omega⟩ _)
theorem EQ.stooped (h : EQ t u) : stoopedP t = stoopedP u := by
  have := h.1
  unfold stoopedP; rw [h.f4]
  exact sum_eq _ (fun i a b => h.fo (f := 4) ⟨a, by omega⟩ (by omega))
theorem EQ.offs (h : EQ t u) (n : Nat) (hn : n ≤ u 4) : offsN t n = offsN u n := by
  induction n with
  | zero => rfl
  | succ n ih => simp only [offsN]; rw [ih (by omega), h.fo (i := n) (f := 2) (by omega) (by omega)]
theorem EQ.best (h : EQ t u) (o m : Int) (n : Nat) (hn : n ≤ u 4) : bestP t o m n = bestP u o m n := by
  induction n with
  | zero => rfl
  | succ n ih =>
    have e := ih (by omega)
    have b := best_in u o m n
    have e2 := h.fo (i := n) (f := 2) (by omega) (by omega)
    have eg := h.gives (i := n) (by omega)
    simp only [bestP]
    rw [e, e2, eg]
    by_cases hb : bestP u o m n < 0
    · simp only [hb, true_or]
    · rw [h.gives (i := bestP u o m n) (by omega)]
theorem EQ.stoop (h : EQ t u) (hi : 0 ≤ i ∧ i < u 4) : EQ (stoopP t i) (stoopP u i) := by
  unfold stoopP
  rw [h.fo hi (f := 4) (by omega)]
  exact (h.up _ (by omega)).up _ (by omega)
theorem EQ.committee (h : EQ t u) : EQ (committeeP t) (committeeP u) := by
  have h4 := h.1
  have b1 := best_in u 0 1 (u 4).toNat
  have b2 := best_in u 1 0 (u 4).toNat
  unfold committeeP
  rw [h.lo (k := 1) (by decide) (by decide), h.lo (k := 2) (by decide) (by decide), h.lo (k := 3) (by decide) (by decide), h.f4, h.best 0 1 _ (by omega), h.best 1 0 _ (by omega)]
  split
  · split
    · exact h
    · exact h.stoop (by omega)
  · split
    · split
      · exact h
      · exact h.up _ (by omega)
    · exact h
theorem EQ.flow (h : EQ t u) (c : Int) (hi : 0 ≤ i ∧ i < u 4) : EQ (flowP c t i) (flowP c u i) := by
  unfold flowP
  rw [h.uses hi c, h.lo (k := 1) (by decide) (by decide), h.f0 hi]
  split
  · exact h.up _ (by decide)
  · split
    · exact h
    · exact h.stoop hi
theorem EQ.gain (h : EQ t u) (c : Int) (hi : 0 ≤ i ∧ i < u 4) : EQ (gainP c t i) (gainP c u i) := by
  unfold gainP
  rw [h.fo hi (f := 3) (by omega), h.gains hi c]
  exact h.up _ (by omega)
end EQF
theorem EQ.day {d : Int} {t u : Int → Int} (h : EQ t u) (hV : VT d u) : EQ (dayP t) (dayP u) := by
  have h4 := h.1
  have hw := week_in hV
  have a : EQ (rainedP t) (rainedP u) := by
    unfold rainedP
    rw [h.lo (k := 1) (by decide) (by decide), h.week, h.lo (k := 5 + weekP u) (by omega) (by omega)]
    exact h.up _ (by decide)
  have vb := VT_committee (VT_rained hV)
  have fb : FR u (committeeP (rainedP u)) := (FR_rained u).tr vb.2
  have b := a.committee
  have c : ∀ n : Nat, n ≤ u 4 → EQ (flowsP (coldP u) (committeeP (rainedP t)) n) (flowsP (coldP u) (committeeP (rainedP u)) n) := by
    intro n hn
    induction n with
    | zero => exact b
    | succ n ih =>
      have f := (VT_flows (c := coldP u) vb.1 n (by rw [fb.2.2.2.1]; omega)).2.2.2.2.1
      exact (ih (by omega)).flow _ (by rw [f, fb.2.2.2.1]; omega)
  have vf := VT_flows (c := coldP u) vb.1 (u 4).toNat (by rw [fb.2.2.2.1]; omega)
  have e : ∀ n : Nat, n ≤ u 4 → EQ (gainsAllP (coldP u) (flowsP (coldP u) (committeeP (rainedP t)) (u 4).toNat) n) (gainsAllP (coldP u) (flowsP (coldP u) (committeeP (rainedP u)) (u 4).toNat) n) := by
    intro n hn
    induction n with
    | zero => exact c _ (by omega)
    | succ n ih =>
      have f := (VT_gains (c := coldP u) vf.1 n).2.2.2.2.1
      exact (ih (by omega)).gain _ (by rw [f, vf.2.2.2.2.1, fb.2.2.2.1]; omega)
  unfold dayP eveP
  rw [h.cold hV, h.f4, h.lo (k := 0) (by decide) (by decide)]
  exact (e _ (by omega)).up _ (by decide)
theorem EQ.days {d : Int} {t u : Int → Int} (h : EQ t u) (hV : VT d u) (n : Nat) : EQ (daysP n t) (daysP n u) := by
  induction n with
  | zero => exact h
  | succ n ih => exact ih.day (VT_days hV n)
theorem EQ.snd {d : Int} {t u : Int → Int} (h : EQ t u) (hV : VT d u) : VT d t := by
  obtain ⟨v0, v1, v2, v3, v4, v5, v6, v7⟩ := hV
  have f4 := h.f4
  refine ⟨by rw [h.lo (by decide) (by decide)]; exact v0, by rw [h.lo (by decide) (by decide)]; exact v1, by rw [h.lo (by decide) (by decide)]; exact v2, by rw [h.lo (by decide) (by decide)]; exact v3, by rw [f4]; exact v4, fun k a b => by rw [h.lo (by omega) (by omega)]; exact v5 k a b, fun k a b => by rw [h.lo (by omega) (by omega)]; exact v6 k a b, fun i a b => ?_⟩
  rw [f4] at b
  have q := v7 i a b
  unfold VF
  rw [h.f0 ⟨a, b⟩, h.fo (f := 1) ⟨a, b⟩ (by omega), h.fo (f := 2) ⟨a, b⟩ (by omega), h.fo (f := 3) ⟨a, b⟩ (by omega), h.fo (f := 4) ⟨a, b⟩ (by omega)]
  exact q
theorem EQ_falls (v : Int) (k : Nat) : ∀ {d : Int} {t u : Int → Int}, EQ t u → VT d u → fallsF v k t = fallsF v k u := by
  induction k with
  | zero => intros; rfl
  | succ k ih => intro d t u h hV; simp only [fallsF]; rw [h.lo (k := 1) (by decide) (by decide), ih (h.day hV) (VT_day hV)]
theorem EQ_off {f : Int} (k : Nat) : ∀ {d : Int} {t u : Int → Int}, EQ t u → VT d u → 0 ≤ f ∧ f < u 4 → offF f k t = offF f k u := by
  induction k with
  | zero => intros; rfl
  | succ k ih => intro d t u h hV hf; simp only [offF]; rw [h.fo hf (f := 2) (by omega), ih (h.day hV) (VT_day hV) (by rw [day_4 hV]; exact hf)]
theorem EQ_quiet (k : Nat) : ∀ {d : Int} {t u : Int → Int}, EQ t u → VT d u → quietF k t = quietF k u := by
  induction k with
  | zero => intros; rfl
  | succ k ih => intro d t u h hV; simp only [quietF]; rw [h.noise, ih (h.day hV) (VT_day hV)]
theorem EQ.stays {d : Int} {t u : Int → Int} {f : Int} (h : EQ t u) (hV : VT d u) (hf : 0 ≤ f ∧ f < u 4) (n : Nat) : staysI t f n = staysI u f n := by
  unfold staysI
  rw [(h.days hV n).fo (i := f) (f := 4) (by rw [days_4 hV]; exact hf) (by omega), h.fo hf (f := 4) (by omega)]
theorem EQ.bk {d : Int} {t u w : Int → Int} (h : EQ t u) (hV : VT d u) (n : Nat) : bkF w t n = bkF w u n := by
  induction n with
  | zero => rfl
  | succ n ih => simp only [bkF]; rw [ih, (h.days hV n).lo (k := 1) (by decide) (by decide)]
