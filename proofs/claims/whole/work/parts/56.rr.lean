/-! the two readers side by side -/
def RR (w r s : Int → Int) : Prop := RG w r ∧ MG w s ∧ r 1 = s 1 ∧ r 3 = s 3 ∧ r 4 = s 4 ∧ r 2 = soP w (r 1) (r 3) ∧ s 2 = toP w (r 1) (r 3) ∧ r 4 = enP w (r 1) (r 3) ∧ (r 2 = 1 → r 5 = min 10000 (s 5))
theorem RR_st {w r s : Int → Int} (h : TG w r) (h1 : r 1 = s 1) (h4 : r 4 = s 4) (h6 : s 6 = 0 ∨ s 6 = 1) : RR w (stR w r) (rdM w s) := by
  have hs : TG w s := by
    obtain ⟨a, b, c⟩ := h
    exact ⟨by rw [← h1]; exact a, by rw [← h1, ← h4]; exact b, by rw [← h1]; exact c⟩
  refine ⟨(RG_st h).1, (MG_rd hs h6).1, h1, ?_, ?_, rfl, ?_, rfl, ?_⟩
  · show bgP w (r 1) (r 4) = bgP w (s 1) (s 4); rw [h1, h4]
  · show enP w (r 1) (bgP w (r 1) (r 4)) = enP w (s 1) (bgP w (s 1) (s 4)); rw [h1, h4]
  · show toP w (s 1) (bgP w (s 1) (s 4)) = toP w (r 1) (bgP w (r 1) (r 4)); rw [h1, h4]
  · intro q
    have q' : soP w (r 1) (bgP w (r 1) (r 4)) = 1 := q
    show nuP w (r 1) (bgP w (r 1) (r 4)) (r 5) = min 10000 (vaP w (s 1) (bgP w (s 1) (s 4)))
    unfold nuP vaP
    rw [← h1, ← h4, if_pos q', if_pos q']
    exact vlr _ _ _
theorem RR.stp {w r s : Int → Int} (h : RR w r s) : RR w (stR w r) (rdM w s) := RR_st h.1.1 h.2.2.1 h.2.2.2.2.1 h.2.1.2.2.2.2.1
theorem RR.word {w r s : Int → Int} (h : RR w r s) (i : Nat) (hi : i < 13) : isR w r i = 1 ↔ s 2 = (i : Int) := by
  obtain ⟨hr, hs, e1, e3, e4, e2, t2, e4', e5⟩ := h
  unfold isR
  by_cases q : r 2 = 0
  · rw [if_pos q]
    have hl := hr.2.2.2.2.1 q
    rw [← wd_is hl.1 hl.2 i hi, t2]
    have hq : ¬ r 1 ≤ r 3 ∧ (97 ≤ w (r 3) ∧ w (r 3) ≤ 122) := by rw [e2] at q; unfold soP at q; omega
    unfold enP at e4'
    rw [if_neg hq.1, if_pos hq.2] at e4'
    unfold toP
    rw [if_neg hq.1, if_pos hq.2, ← e4']
  · rw [if_neg q, t2]
    have : toP w (r 1) (r 3) ≠ (i : Int) := by rw [e2] at q; unfold soP at q; unfold toP; omega
    exact ⟨fun z => by omega, fun z => absurd z this⟩
theorem RR.sort {w r s : Int → Int} (h : RR w r s) : (r 2 = 1 ↔ s 2 = 20) ∧ (r 2 = 2 ↔ s 2 = 21) ∧ (r 2 = 3 ↔ s 2 = 22) := by
  obtain ⟨hr, hs, e1, e3, e4, e2, t2, e4', e5⟩ := h
  have hwd := wd_in w (r 3) (scP 97 122 w (r 1) (r 3) - r 3) 13
  rw [e2, t2]
  unfold soP toP wdP
  omega
theorem RR.num {w r s : Int → Int} (h : RR w r s) (h6 : s 6 = 0) {lo hi : Int} (hh : hi ≤ 9999) : tnO r lo hi = 1 ↔ nuG s lo hi := by
  have a := h.sort.1
  have b := h.2.2.2.2.2.2.2.2
  unfold tnO nuG
  by_cases q : r 2 = 1
  · have c := b q
    omega
  · omega
theorem RR.yes {w r s : Int → Int} (h : RR w r s) {lo hi : Int} (hh : hi ≤ 9999) (q : nuG s lo hi) : RR w (tnR w r lo hi) (nuM w s lo hi) ∧ tnR w r lo hi 6 = s 5 ∧ nuM w s lo hi 6 = 0 := by
  have a := (h.num q.1 hh).mpr q
  have c := h.2.2.2.2.2.2.2.2 (h.sort.1.mpr q.2.1)
  have d : r 2 = 1 ∧ lo ≤ r 5 ∧ r 5 ≤ hi := by unfold tnO at a; omega
  unfold tnR nuM
  rw [if_pos d, if_pos q]
  refine ⟨RR_st (r := updI r 6 (r 5)) (s := updI s 6 0) h.1.1 h.2.2.1 h.2.2.2.2.1 (Or.inl rfl), ?_, rfl⟩
  show r 5 = s 5
  omega
theorem nu_no {w s : Int → Int} {lo hi : Int} (q : ¬ nuG s lo hi) : nuM w s lo hi = updI s 6 1 := if_neg q
/-- an item of both: it came, or the fault is at the same place -/
def ITR (w : Int → Int) (d : Int) (q : RES) (u : REM) : Prop := (q.1 = 1 ∧ u.2 6 = 0 ∧ EQ q.2.1 u.1 ∧ VT d u.1 ∧ RR w q.2.2 u.2) ∨ (q.1 = 0 ∧ u.2 6 = 1 ∧ q.2.2 3 = u.2 3)
section ITS
variable {w t m r s : Int → Int} {d : Int}
theorem IT_rain (h : RR w r s) (h6 : s 6 = 0) (hE : EQ t m) (hV : VT d m) : ITR w d (trR w t r) (raM w m s) := by
  unfold trR raM
  by_cases q : nuG s 0 7
  · have a := h.yes (by decide) q
    rw [if_pos ((h.num h6 (by decide)).mpr q)]
    unfold trB
    by_cases q2 : nuG (nuM w s 0 7) 0 99
    · have b := a.1.yes (by decide) q2
      rw [if_pos ((a.1.num a.2.2 (by decide)).mpr q2), a.2.1, b.2.1]
      refine Or.inl ⟨rfl, b.2.2, ?_, ?_, b.1⟩
      · show EQ (updI t (5 + s 5) (nuM w s 0 7 5)) (if nuM w (nuM w s 0 7) 0 99 6 = 0 then updI m (5 + s 5) (nuM w s 0 7 5) else m)
        rw [if_pos b.2.2]
        exact hE.up _ (by have := q.2.2; omega)
      · show VT d (if nuM w (nuM w s 0 7) 0 99 6 = 0 then updI m (5 + s 5) (nuM w s 0 7 5) else m)
        rw [if_pos b.2.2]
        exact VT_rainw hV (by have := q.2.2; omega) q2.2.2
    · rw [if_neg (fun z => q2 ((a.1.num a.2.2 (by decide)).mp z)), nu_no q2]
      exact Or.inr ⟨rfl, rfl, a.1.2.2.2.1⟩
  · rw [if_neg (fun z => q ((h.num h6 (by decide)).mp z)), nu_no q]
    rw [nu_no (fun z => by have := z.1; rw [updI_at] at this; omega)]
    exact Or.inr ⟨rfl, rfl, h.2.2.2.1⟩
theorem IT_cold (h : RR w r s) (h6 : s 6 = 0) (hE : EQ t m) (hV : VT d m) {c : Int} (hc : c = if s 2 = 10 then 1 else 0) : ITR w d (tfR w t (stR w r) c) (coM w m s) := by
  have h1 := h.stp
  have h61 : rdM w s 6 = 0 := h6
  unfold tfR coM
  by_cases q : nuG (rdM w s) 0 7
  · have a := h1.yes (by decide) q
    rw [if_pos ((h1.num h61 (by decide)).mpr q), a.2.1, ← hc]
    refine Or.inl ⟨rfl, a.2.2, ?_, ?_, a.1⟩
    · show EQ (updI t (13 + rdM w s 5) c) (if nuM w (rdM w s) 0 7 6 = 0 then updI m (13 + rdM w s 5) c else m)
      rw [if_pos a.2.2]
      exact hE.up _ (by have := q.2.2; omega)
    · show VT d (if nuM w (rdM w s) 0 7 6 = 0 then updI m (13 + rdM w s 5) c else m)
      rw [if_pos a.2.2]
      exact VT_coldw hV (by have := q.2.2; omega) (by omega)
  · rw [if_neg (fun z => q ((h1.num h61 (by decide)).mp z)), nu_no q]
    exact Or.inr ⟨rfl, rfl, h1.2.2.2.1⟩
theorem IT_tank (h : RR w r s) (h6 : s 6 = 0) (hE : EQ t m) (hV : VT d m) : ITR w d (ttR w t (stR w r)) (updI m 1 (rdM w s 5), nuM w (rdM w s) 0 9999) := by
  have h1 := h.stp
  have h61 : rdM w s 6 = 0 := h6
  unfold ttR
  by_cases q : nuG (rdM w s) 0 9999
  · have a := h1.yes (by decide) q
    rw [if_pos ((h1.num h61 (by decide)).mpr q), a.2.1]
    exact Or.inl ⟨rfl, a.2.2, hE.up _ (by decide), VT_tank hV q.2.2, a.1⟩
  · rw [if_neg (fun z => q ((h1.num h61 (by decide)).mp z)), nu_no q]
    exact Or.inr ⟨rfl, rfl, h1.2.2.2.1⟩
end ITS
/-- a new fountain -/
theorem add_new (t : Int → Int) (kd : Int) (h4 : 0 ≤ t 4) : addP t kd = newP t kd 10 0 20 := by
  funext k
  unfold addP beginP newP
  simp only [updI_app]
  (repeat' split) <;> first | rfl | (exfalso; omega)
theorem new_h {t : Int → Int} {kd h o v : Int} (h4 : 0 ≤ t 4) (z : Int) : updI (newP t kd h o v) (21 + 5 * t 4 + 1) z = newP t kd z o v := by
  funext k
  unfold newP
  simp only [updI_app]
  (repeat' split) <;> first | rfl | (exfalso; omega)
theorem new_v {t : Int → Int} {kd h o v : Int} (h4 : 0 ≤ t 4) (z : Int) : updI (newP t kd h o v) (21 + 5 * t 4 + 3) z = newP t kd h o z := by
  funext k
  unfold newP
  simp only [updI_app]
  (repeat' split) <;> first | rfl | (exfalso; omega)
theorem new_o {t : Int → Int} {kd h o v : Int} (h4 : 0 ≤ t 4) (z : Int) : updI (newP t kd h o v) (21 + 5 * t 4 + 2) z = newP t kd h z v := by
  funext k
  unfold newP
  simp only [updI_app]
  (repeat' split) <;> first | rfl | (exfalso; omega)
theorem EQ.new {t m : Int → Int} (h : EQ t m) (h8 : m 4 < 8) (kd hg o v : Int) : EQ (newP t kd hg o v) (newP m kd hg o v) := by
  have h4 := h.1
  have e4 := h.f4
  refine ⟨by rw [new_4 _ _ _ _ _ h4.1]; omega, fun k a b => ?_⟩
  rw [new_4 _ _ _ _ _ h4.1] at b
  unfold newP
  rw [e4]
  simp only [updI_app]
  (repeat' split) <;> first | rfl | (exact h.2 k a (by omega))
theorem VT_new {d : Int} {m : Int → Int} (h : VT d m) (h8 : m 4 < 8) {kd hg o v : Int} (hk : 0 ≤ kd ∧ kd ≤ 5) (hh : 1 ≤ hg ∧ hg ≤ 40) (ho : 0 ≤ o ∧ o ≤ 1) (hv : 0 ≤ v ∧ v ≤ 99) : VT d (newP m kd hg o v) := by
  obtain ⟨v0, v1, v2, v3, v4, v5, v6, v7⟩ := h
  have lo : ∀ k, k ≠ 4 → k < 21 → newP m kd hg o v k = m k := fun k a b => by
    unfold newP
    rw [updI_ne _ _ (by omega), updI_ne _ _ (by omega), updI_ne _ _ (by omega), updI_ne _ _ (by omega), updI_ne _ _ (by omega), updI_ne _ _ a]
  refine ⟨by rw [lo _ (by decide) (by decide)]; exact v0, by rw [lo _ (by decide) (by decide)]; exact v1, by rw [lo _ (by decide) (by decide)]; exact v2, by rw [lo _ (by decide) (by decide)]; exact v3, by rw [new_4 _ _ _ _ _ v4.1]; omega, fun k a b => by rw [lo _ (by omega) (by omega)]; exact v5 k a b, fun k a b => by rw [lo _ (by omega) (by omega)]; exact v6 k a b, fun i a b => ?_⟩
  rw [new_4 _ _ _ _ _ v4.1] at b
  by_cases e : i = m 4
  · subst e
    unfold VF newP
    simp only [updI_app]
    refine ⟨?_, ?_, ?_, ?_, ?_⟩ <;> (repeat' split) <;> first | omega | assumption | exact absurd trivial (by assumption)
  · have q := v7 i a (by omega)
    unfold VF newP
    simp only [updI_app]
    obtain ⟨q1, q2, q3, q4, q5⟩ := q
    refine ⟨?_, ?_, ?_, ?_, ?_⟩ <;> (repeat' split) <;> first | omega | assumption | exact absurd trivial (by assumption)
section ITF
variable {w t m r s : Int → Int} {d : Int}
theorem pa_of (h6 : s 6 = 0) {i : Int} (hi : s 2 = i) : paO s i = 1 := if_pos ⟨h6, hi⟩
theorem pa_not {i : Int} (hi : s 6 = 0 → s 2 ≠ i) : paO s i = 0 := if_neg (fun q => hi q.1 q.2)
/-- the last of a fountain's words -/
theorem IT_D {R S : Int → Int} (hR : RR w R S) (h6 : S 6 = 0) (hE : EQ t m) (hV : VT d m) (h8 : m 4 < 8) {kd hg v : Int} (hk : 0 ≤ kd ∧ kd ≤ 5) (hh : 1 ≤ hg ∧ hg ≤ 40) (hv : 0 ≤ v ∧ v ≤ 99) : ITR w d (tuD w (newP t kd hg 0 v) R (t 4)) (if paM w S 8 6 = 0 then newP m kd hg (paO S 8) v else m, paM w S 8) := by
  have h4 := hE.1
  have e4 := hE.f4
  unfold tuD
  by_cases q : S 2 = 8
  · rw [if_pos ((hR.word 8 (by decide)).mpr q), new_o (by omega), pa_y (pa_of h6 q), pa_of h6 q]
    refine Or.inl ⟨rfl, h6, ?_, ?_, hR.stp⟩
    · show EQ _ (if S 6 = 0 then _ else m)
      rw [if_pos h6]; exact hE.new h8 _ _ _ _
    · show VT d (if S 6 = 0 then _ else m)
      rw [if_pos h6]; exact VT_new hV h8 hk hh (by decide) hv
  · have z : paO S 8 = 0 := pa_not (fun _ => q)
    rw [if_neg (fun y => q ((hR.word 8 (by decide)).mp y)), pa_no (by omega), z]
    refine Or.inl ⟨rfl, h6, ?_, ?_, hR⟩
    · show EQ _ (if S 6 = 0 then _ else m)
      rw [if_pos h6]; exact hE.new h8 _ _ _ _
    · show VT d (if S 6 = 0 then _ else m)
      rw [if_pos h6]; exact VT_new hV h8 hk hh (by decide) hv
theorem IT_C {R S : Int → Int} (hR : RR w R S) (h6 : S 6 = 0) (hE : EQ t m) (hV : VT d m) (h8 : m 4 < 8) {kd hg : Int} (hk : 0 ≤ kd ∧ kd ≤ 5) (hh : 1 ≤ hg ∧ hg ≤ 40) : ITR w d (tuC w (newP t kd hg 0 20) R (t 4)) (if paM w (peM w S 7 0 99) 8 6 = 0 then newP m kd hg (paO (peM w S 7 0 99) 8) (peV w S 7 20) else m, paM w (peM w S 7 0 99) 8) := by
  have h4 := hE.1
  have e4 := hE.f4
  unfold tuC
  by_cases q : S 2 = 7
  · have h61 : rdM w S 6 = 0 := h6
    rw [if_pos ((hR.word 7 (by decide)).mpr q)]
    have ep : peM w S 7 0 99 = nuM w (rdM w S) 0 99 := if_pos (pa_of h6 q)
    have ev : peV w S 7 20 = rdM w S 5 := if_pos (pa_of h6 q)
    rw [ep, ev]
    by_cases q2 : nuG (rdM w S) 0 99
    · have a := hR.stp.yes (by decide) q2
      rw [if_pos ((hR.stp.num h61 (by decide)).mpr q2), a.2.1, new_v (by omega)]
      exact IT_D a.1 a.2.2 hE hV h8 hk hh q2.2.2
    · rw [if_neg (fun z => q2 ((hR.stp.num h61 (by decide)).mp z)), nu_no q2, pa_no (by rw [pa_not (fun z => absurd (show (1 : Int) = 0 from z) (by decide))]; decide)]
      exact Or.inr ⟨rfl, rfl, hR.stp.2.2.2.1⟩
  · have z : paO S 7 = 0 := pa_not (fun _ => q)
    rw [if_neg (fun y => q ((hR.word 7 (by decide)).mp y))]
    have ep : peM w S 7 0 99 = S := if_neg (by omega)
    have ev : peV w S 7 20 = 20 := if_neg (by omega)
    rw [ep, ev]
    exact IT_D hR h6 hE hV h8 hk hh (by decide)
theorem IT_fou (h : RR w r s) (h6 : s 6 = 0) (hE : EQ t m) (hV : VT d m) (hk : 0 ≤ s 2 ∧ s 2 ≤ 5) : ITR w d (tuA w t r (s 2)) (fiM w m s) := by
  have h4 := hE.1
  have e4 := hE.f4
  unfold tuA fiM
  by_cases q8 : m 4 = 8
  · rw [if_pos (by omega), if_pos q8]
    exact Or.inr ⟨rfl, rfl, h.2.2.2.1⟩
  rw [if_neg (by omega), if_neg q8, add_new _ _ (by omega)]
  have hR : RR w (stR w r) (fiS0 w s) := RR_st (s := updI s 6 0) h.1.1 h.2.2.1 h.2.2.2.2.1 (Or.inl rfl)
  have h60 : fiS0 w s 6 = 0 := rfl
  unfold tuB
  by_cases q : fiS0 w s 2 = 6
  · have h61 : rdM w (fiS0 w s) 6 = 0 := rfl
    rw [if_pos ((hR.word 6 (by decide)).mpr q)]
    have ep : fiS1 w s = nuM w (rdM w (fiS0 w s)) 1 40 := if_pos (pa_of h60 q)
    have ev : peV w (fiS0 w s) 6 10 = rdM w (fiS0 w s) 5 := if_pos (pa_of h60 q)
    rw [ev]
    by_cases q2 : nuG (rdM w (fiS0 w s)) 1 40
    · have a := hR.stp.yes (by decide) q2
      rw [if_pos ((hR.stp.num h61 (by decide)).mpr q2), a.2.1, new_h (by omega)]
      have c := IT_C (t := t) (m := m) (d := d) a.1 a.2.2 hE hV (by omega) hk q2.2.2
      rw [← ep] at c
      exact c
    · rw [if_neg (fun z => q2 ((hR.stp.num h61 (by decide)).mp z))]
      have e1 : fiS1 w s = updI (rdM w (fiS0 w s)) 6 1 := by rw [ep, nu_no q2]
      have e2 : fiS2 w s = fiS1 w s := if_neg (by rw [pa_not (fun z => by rw [e1, updI_at] at z; omega)]; decide)
      have e3 : fiS3 w s = fiS1 w s := by unfold fiS3; rw [e2, pa_no (by rw [pa_not (fun z => by rw [e1, updI_at] at z; omega)]; decide)]
      refine Or.inr ⟨rfl, ?_, ?_⟩
      · show fiS3 w s 6 = 1; rw [e3, e1, updI_at]
      · show stR w (stR w r) 3 = fiS3 w s 3; rw [e3, e1]; exact hR.stp.2.2.2.1
  · have z : paO (fiS0 w s) 6 = 0 := pa_not (fun _ => q)
    rw [if_neg (fun y => q ((hR.word 6 (by decide)).mp y))]
    have ep : fiS1 w s = fiS0 w s := if_neg (by omega)
    have ev : peV w (fiS0 w s) 6 10 = 10 := if_neg (by omega)
    rw [ev]
    have c := IT_C (t := t) (m := m) (d := d) hR h60 hE hV (by omega) hk (hg := 10) (by decide)
    rw [← ep] at c
    exact c
theorem RR.kd (h : RR w r s) : kdR w r = if s 2 ≤ 5 then s 2 else -1 := by
  have w0 := h.word 0 (by decide)
  have w1 := h.word 1 (by decide)
  have w2 := h.word 2 (by decide)
  have w3 := h.word 3 (by decide)
  have w4 := h.word 4 (by decide)
  have w5 := h.word 5 (by decide)
  have hs2 := h.2.1.2.2.1
  unfold kdR
  by_cases q0 : s 2 = 0
  · rw [if_pos (w0.mpr q0), if_pos (by rw [q0]; decide), q0]
  rw [if_neg (fun z => q0 (w0.mp z))]
  by_cases q1 : s 2 = 1
  · rw [if_pos (w1.mpr q1), if_pos (by rw [q1]; decide), q1]
  rw [if_neg (fun z => q1 (w1.mp z))]
  by_cases q2 : s 2 = 2
  · rw [if_pos (w2.mpr q2), if_pos (by rw [q2]; decide), q2]
  rw [if_neg (fun z => q2 (w2.mp z))]
  by_cases q3 : s 2 = 3
  · rw [if_pos (w3.mpr q3), if_pos (by rw [q3]; decide), q3]
  rw [if_neg (fun z => q3 (w3.mp z))]
  by_cases q4 : s 2 = 4
  · rw [if_pos (w4.mpr q4), if_pos (by rw [q4]; decide), q4]
  rw [if_neg (fun z => q4 (w4.mp z))]
  by_cases q5 : s 2 = 5
  · rw [if_pos (w5.mpr q5), if_pos (by rw [q5]; decide), q5]
  rw [if_neg (fun z => q5 (w5.mp z))]
  clear w0 w1 w2 w3 w4 w5
  rw [if_neg (by omega)]
theorem IT_it (h : RR w r s) (h6 : s 6 = 0) (hE : EQ t m) (hV : VT d m) : ITR w d (tiR w t r) (itM w m s) := by
  have w9 := h.word 9 (by decide)
  have w10 := h.word 10 (by decide)
  have w11 := h.word 11 (by decide)
  have w12 := h.word 12 (by decide)
  have hs2 := h.2.1.2.2.1
  have hkd := h.kd
  unfold tiR itM
  by_cases q : s 2 ≤ 5
  · rw [if_pos q] at hkd
    rw [if_pos (by rw [hkd]; intro z; rw [z] at hs2; exact absurd hs2.1 (by decide)), if_pos q, hkd]
    exact IT_fou h h6 hE hV ⟨hs2.1, q⟩
  rw [if_neg q] at hkd
  rw [if_neg (fun z => z hkd), if_neg q]
  by_cases q9 : s 2 = 9
  · rw [if_pos (w9.mpr q9), if_pos (pa_of h6 q9)]
    exact IT_rain h.stp h6 hE hV
  rw [if_neg (fun z => q9 (w9.mp z)), if_neg (show ¬ paO s 9 = 1 by rw [pa_not (fun _ => q9)]; decide)]
  by_cases q10 : s 2 = 10
  · rw [if_pos (w10.mpr q10), if_pos (Or.inl q10)]
    exact IT_cold h h6 hE hV (by rw [if_pos q10])
  rw [if_neg (fun z => q10 (w10.mp z))]
  by_cases q11 : s 2 = 11
  · rw [if_pos (w11.mpr q11), if_pos (Or.inr q11)]
    exact IT_cold h h6 hE hV (by rw [if_neg q10])
  rw [if_neg (fun z => q11 (w11.mp z)), if_neg (show ¬ (s 2 = 10 ∨ s 2 = 11) from fun z => z.elim q10 q11)]
  by_cases q12 : s 2 = 12
  · rw [if_pos (w12.mpr q12), if_pos (pa_of h6 q12)]
    exact IT_tank h h6 hE hV
  rw [if_neg (fun z => q12 (w12.mp z)), if_neg (show ¬ paO s 12 = 1 by rw [pa_not (fun _ => q12)]; decide)]
  exact Or.inr ⟨rfl, rfl, h.2.2.2.1⟩
end ITF
theorem itq_1 (w t s : Int → Int) : (itM w t s).2 1 = s 1 := by
  unfold itM
  split
  · unfold fiM
    split
    · rfl
    · exact fi_1 w s
  split
  · show nuM w (nuM w _ 0 7) 0 99 1 = _; rw [nu_1, nu_1]; rfl
  split
  · show nuM w _ 0 7 1 = _; rw [nu_1]; rfl
  split
  · show nuM w _ 0 9999 1 = _; rw [nu_1]; rfl
  · rfl
/-- all items -/
def TWR (d : Int) (q u : RES) : Prop := ((u.2.2 6 = 0 ∧ u.2.2 2 = 22) ∧ q.1 = u.1 ∧ 0 ≤ q.1 ∧ EQ q.2.1 u.2.1 ∧ VT d u.2.1) ∨ (¬ (u.2.2 6 = 0 ∧ u.2.2 2 = 22) ∧ q.1 = -1 - u.2.2 3 ∧ q.1 < 0)
theorem tw_stop {w t s : Int → Int} {k : Int} (g : Nat) (h : paO s 21 ≠ 1) : twF w g k t s = (k, t, s) := by
  cases g with
  | zero => rfl
  | succ g => simp only [twF]; rw [if_neg h]
theorem TW_all (w : Int → Int) (d : Int) (f : Nat) : ∀ (g : Nat) (t m r s : Int → Int), f ≤ 120 → RR w r s → s 6 = 0 → EQ t m → VT d m → r 1 - r 3 ≤ f → r 1 - r 3 < g → TWR d (riF w f t r) (twF w g (121 - (f : Int)) (itM w m s).1 (itM w m s).2) := by
  induction f with
  | zero =>
    intro g t m r s hf h h6 hE hV hl hg
    have hrg := h.1
    have hs := h.sort.2.2
    obtain ⟨⟨a1, a2, -⟩, a3, -⟩ := id hrg
    have e2 := h.2.2.2.2.2.1
    have h22 : s 2 = 22 := hs.mp (by rw [e2]; unfold soP; rw [if_pos (by omega)])
    have ei : itM w m s = (m, updI s 6 1) := by
      unfold itM
      rw [if_neg (by omega), if_neg (by rw [pa_not (fun _ => by omega)]; decide), if_neg (by omega), if_neg (by rw [pa_not (fun _ => by omega)]; decide)]
    rw [ei, tw_stop g (by rw [pa_not (fun z => absurd (show (1 : Int) = 0 from z) (by decide))]; decide)]
    refine Or.inr ⟨fun z => ?_, ?_, ?_⟩
    · have z1 : updI s 6 1 6 = 0 := z.1
      rw [updI_at] at z1; omega
    · show -1 - r 3 = -1 - s 3; rw [h.2.2.2.1]
    · show -1 - r 3 < 0; omega
  | succ f ih =>
    intro g t m r s hf h h6 hE hV hl hg
    have hrg := h.1
    have hro := RO_ti (w := w) (t := t) (r := r) (by rw [hE.f4]; exact hE.1) hrg
    obtain ⟨⟨a1, a2, -⟩, a3, -⟩ := id hrg
    have hit := IT_it h h6 hE hV
    generalize hq : tiR w t r = q at hit hro
    generalize hu : itM w m s = u at hit
    obtain ⟨q1, q2, q3⟩ := q
    obtain ⟨u1, u2⟩ := u
    have hr3 : r 3 ≤ q3 3 := hro.2.2.2
    simp only [riF, hq]
    rcases hit with ⟨c1, c2, c3, c4, c5⟩ | ⟨c1, c2, c3⟩
    · have c1' : q1 = 1 := c1
      have c5' : RR w q3 u2 := c5
      have c2' : u2 6 = 0 := c2
      rw [if_pos c1']
      have hs := c5'.sort
      obtain ⟨⟨b1, b2, -⟩, b3, -⟩ := id c5'.1
      by_cases z3 : q3 2 = 3
      · rw [if_pos z3, tw_stop g (by rw [pa_not (fun _ => by omega)]; decide)]
        refine Or.inl ⟨⟨c2', hs.2.2.mp z3⟩, ?_, ?_, c3, c4⟩
        · show 120 - (f : Int) = 121 - ((f + 1 : Nat) : Int); omega
        · show 0 ≤ 120 - (f : Int); omega
      rw [if_neg z3]
      by_cases z2 : q3 2 = 2
      · rw [if_pos z2]
        obtain ⟨g', rfl⟩ : ∃ g', g = g' + 1 := ⟨g - 1, by omega⟩
        have hp : paO u2 21 = 1 := pa_of c2' (hs.2.1.mp z2)
        simp only [twF]
        rw [if_pos hp, show (121 : Int) - ((f + 1 : Nat) : Int) + 1 = 121 - (f : Int) by omega]
        have hst := (RG_st c5'.1.1).2
        have h4 := c5'.1.2.2.2.2.2 z2
        have e1 : stR w q3 1 = q3 1 := rfl
        have eq1 : q3 1 = r 1 := by
          have x1 := c5'.2.2.1
          have x2 := h.2.2.1
          have x3 : u2 1 = s 1 := by rw [show u2 = (itM w m s).2 by rw [hu]]; exact itq_1 w m s
          omega
        exact ih g' q2 u1 (stR w q3) (rdM w u2) (by omega) c5'.stp c2' c3 c4 (by omega) (by omega)
      · rw [if_neg z2, tw_stop g (by rw [pa_not (fun _ => by omega)]; decide)]
        refine Or.inr ⟨fun z => z3 (hs.2.2.mpr z.2), ?_, ?_⟩
        · show -1 - q3 3 = -1 - u2 3; rw [c5'.2.2.2.1]
        · show -1 - q3 3 < 0; omega
    · have c1' : q1 = 0 := c1
      have c2' : u2 6 = 1 := c2
      have c3' : q3 3 = u2 3 := c3
      rw [if_neg (by omega), tw_stop g (by rw [pa_not (fun _ => by omega)]; decide)]
      refine Or.inr ⟨fun z => ?_, ?_, ?_⟩
      · have z1 : u2 6 = 0 := z.1
        omega
      · show -1 - q3 3 = -1 - u2 3; rw [c3']
      · show -1 - q3 3 < 0; omega
theorem TW_town {w t m r s : Int → Int} {d : Int} (h : TG w (updI r 4 0)) (h1 : r 1 = s 1) (hE : EQ t m) (hV : VT d m) : TWR d (riR w t r) (twM w m s) := by
  have hR : RR w (stR w (updI r 4 0)) (rdM w (updI (updI s 4 0) 6 0)) := RR_st (r := updI r 4 0) (s := updI (updI s 4 0) 6 0) h h1 rfl (Or.inl rfl)
  have hg := hR.1
  obtain ⟨⟨a1, a2, -⟩, a3, -⟩ := id hg
  exact TW_all w d 120 121 t m _ _ (by decide) hR rfl hE hV (by omega) (by omega)
