/-! the reference's items leave the town and the reader sound -/
theorem new_4 (t : Int → Int) (k h o v : Int) (h4 : 0 ≤ t 4) : newP t k h o v 4 = t 4 + 1 := by
  unfold newP
  rw [updI_ne _ _ (by omega), updI_ne _ _ (by omega), updI_ne _ _ (by omega), updI_ne _ _ (by omega), updI_ne _ _ (by omega), updI_at]
theorem MO_fi {w t s : Int → Int} (h4 : 0 ≤ t 4 ∧ t 4 ≤ 8) (h : MG w s) : MO w s (fiM w t s) := by
  have a := MG_fi h
  unfold fiM
  by_cases q : t 4 = 8
  · rw [if_pos q]; exact ⟨h4, h.u6 (Or.inr rfl), Int.le_refl _⟩
  · rw [if_neg q]
    refine ⟨?_, a.2.2.2.1, a.2.2.2.2⟩
    show 0 ≤ (if fiS3 w s 6 = 0 then newP t (s 2) (peV w (fiS0 w s) 6 10) (paO (fiS2 w s) 8) (peV w (fiS1 w s) 7 20) else t) 4 ∧ (if fiS3 w s 6 = 0 then newP t (s 2) (peV w (fiS0 w s) 6 10) (paO (fiS2 w s) 8) (peV w (fiS1 w s) 7 20) else t) 4 ≤ 8
    split
    · rw [new_4 _ _ _ _ _ h4.1]; omega
    · exact h4
theorem ra_in {w s : Int → Int} (h : MG w s) (q : nuM w (nuM w s 0 7) 0 99 6 = 0) : (0 ≤ s 5 ∧ s 5 ≤ 7) ∧ nuG s 0 7 ∧ nuG (nuM w s 0 7) 0 99 := by
  have a := h.nu 0 7
  have b := (a.1.nu 0 99).2.2.mp q
  have c := a.2.2.mp b.1
  exact ⟨c.2.2, c, b⟩
theorem MO_ra {w t s : Int → Int} (h4 : 0 ≤ t 4 ∧ t 4 ≤ 8) (h : MG w s) : MO w s (raM w t s) := by
  have a := h.nu 0 7
  have b := a.1.nu 0 99
  refine ⟨?_, b.1, by have := a.2.1; have := b.2.1; show s 3 ≤ nuM w (nuM w s 0 7) 0 99 3; omega⟩
  show 0 ≤ (if nuM w (nuM w s 0 7) 0 99 6 = 0 then updI t (5 + s 5) (nuM w s 0 7 5) else t) 4 ∧ (if nuM w (nuM w s 0 7) 0 99 6 = 0 then updI t (5 + s 5) (nuM w s 0 7 5) else t) 4 ≤ 8
  by_cases q : nuM w (nuM w s 0 7) 0 99 6 = 0
  · rw [if_pos q]
    have c := (ra_in h q).1
    exact u4 h4 (by omega)
  · rw [if_neg q]; exact h4
theorem MO_co {w t s : Int → Int} (h4 : 0 ≤ t 4 ∧ t 4 ≤ 8) (h : MG w s) : MO w s (coM w t s) := by
  have a := h.rd.nu 0 7
  refine ⟨?_, a.1, by have := a.2.1; have := h.lov; show s 3 ≤ nuM w (rdM w s) 0 7 3; omega⟩
  show 0 ≤ (if nuM w (rdM w s) 0 7 6 = 0 then updI t (13 + rdM w s 5) (if s 2 = 10 then 1 else 0) else t) 4 ∧ (if nuM w (rdM w s) 0 7 6 = 0 then updI t (13 + rdM w s 5) (if s 2 = 10 then 1 else 0) else t) 4 ≤ 8
  by_cases q : nuM w (rdM w s) 0 7 6 = 0
  · rw [if_pos q]
    have c := (a.2.2.mp q).2.2
    exact u4 h4 (by omega)
  · rw [if_neg q]; exact h4
theorem MO_it {w t s : Int → Int} (h4 : 0 ≤ t 4 ∧ t 4 ≤ 8) (h : MG w s) : MO w s (itM w t s) := by
  unfold itM
  split
  · exact MO_fi h4 h
  split
  · exact (MO_ra h4 h.rd).le h.lov
  split
  · exact MO_co h4 h
  split
  · have a := h.rd.nu 0 9999
    exact ⟨u4 (t := t) (k := 1) (v := rdM w s 5) h4 (by decide), a.1, by have := a.2.1; have := h.lov; show s 3 ≤ nuM w (rdM w s) 0 9999 3; omega⟩
  · exact ⟨h4, h.u6 (Or.inr rfl), Int.le_refl _⟩
