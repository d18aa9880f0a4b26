/-! both readers as plain functions: w the bytes, r the class's row 9 (1 length, 2 sort, 3 start, 4 end, 5 number, 6 taken), s the reference's row 8 (1 taped, 2 token, 3 begin, 4 at, 5 value, 6 bad), t a town -/
def bgP (w : Int → Int) (n p : Int) : Int := scP 32 32 w n p
def soP (w : Int → Int) (n b : Int) : Int := if n ≤ b then 3 else if 97 ≤ w b ∧ w b ≤ 122 then 0 else if 48 ≤ w b ∧ w b ≤ 57 then 1 else if w b = 59 then 2 else 4
def enP (w : Int → Int) (n b : Int) : Int := if n ≤ b then b else if 97 ≤ w b ∧ w b ≤ 122 then scP 97 122 w n b else if 48 ≤ w b ∧ w b ≤ 57 then scP 48 57 w n b else b + 1
def toP (w : Int → Int) (n b : Int) : Int := if n ≤ b then 22 else if 97 ≤ w b ∧ w b ≤ 122 then wdP w b (scP 97 122 w n b - b) else if 48 ≤ w b ∧ w b ≤ 57 then 20 else if w b = 59 then 21 else 23
def nuP (w : Int → Int) (n b v : Int) : Int := if soP w n b = 1 then vlP w n b 0 else v
def vaP (w : Int → Int) (n b : Int) : Int := if soP w n b = 1 then vrP w n b 0 else 0
/-- the next token comes to hand -/
def stR (w r : Int → Int) : Int → Int := fun k => if k = 2 then soP w (r 1) (bgP w (r 1) (r 4)) else if k = 3 then bgP w (r 1) (r 4) else if k = 4 then enP w (r 1) (bgP w (r 1) (r 4)) else if k = 5 then nuP w (r 1) (bgP w (r 1) (r 4)) (r 5) else r k
def rdM (w s : Int → Int) : Int → Int := fun k => if k = 2 then toP w (s 1) (bgP w (s 1) (s 4)) else if k = 3 then bgP w (s 1) (s 4) else if k = 4 then enP w (s 1) (bgP w (s 1) (s 4)) else if k = 5 then vaP w (s 1) (bgP w (s 1) (s 4)) else s k
/-- the class -/
def isR (w r : Int → Int) (i : Nat) : Int := if r 2 = 0 then isW w (r 3) (r 4) i else 0
def twR (w r : Int → Int) (i : Nat) : Int → Int := if isR w r i = 1 then stR w r else r
def tnO (r : Int → Int) (lo hi : Int) : Int := if r 2 = 1 ∧ lo ≤ r 5 ∧ r 5 ≤ hi then 1 else 0
def tnR (w r : Int → Int) (lo hi : Int) : Int → Int := if r 2 = 1 ∧ lo ≤ r 5 ∧ r 5 ≤ hi then stR w (updI r 6 (r 5)) else r
abbrev RES : Type := Int × (Int → Int) × (Int → Int)
def trB (w t r : Int → Int) (k : Int) : RES := if tnO r 0 99 = 1 then (1, updI t (5 + k) (tnR w r 0 99 6), tnR w r 0 99) else (0, t, r)
def trR (w t r : Int → Int) : RES := if tnO r 0 7 = 1 then trB w t (tnR w r 0 7) (tnR w r 0 7 6) else (0, t, r)
def tfR (w t r : Int → Int) (c : Int) : RES := if tnO r 0 7 = 1 then (1, updI t (13 + tnR w r 0 7 6) c, tnR w r 0 7) else (0, t, r)
def tuD (w t r : Int → Int) (i : Int) : RES := if isR w r 8 = 1 then (1, updI t (21 + 5 * i + 2) 1, stR w r) else (1, t, r)
def tuC (w t r : Int → Int) (i : Int) : RES := if isR w r 7 = 1 then (if tnO (stR w r) 0 99 = 1 then tuD w (updI t (21 + 5 * i + 3) (tnR w (stR w r) 0 99 6)) (tnR w (stR w r) 0 99) i else (0, t, stR w r)) else tuD w t r i
def tuB (w t r : Int → Int) (i : Int) : RES := if isR w r 6 = 1 then (if tnO (stR w r) 1 40 = 1 then tuC w (updI t (21 + 5 * i + 1) (tnR w (stR w r) 1 40 6)) (tnR w (stR w r) 1 40) i else (0, t, stR w r)) else tuC w t r i
def tuA (w t r : Int → Int) (kd : Int) : RES := if 8 ≤ t 4 then (0, t, r) else tuB w (addP t kd) (stR w r) (t 4)
def kdR (w r : Int → Int) : Int := if isR w r 0 = 1 then 0 else if isR w r 1 = 1 then 1 else if isR w r 2 = 1 then 2 else if isR w r 3 = 1 then 3 else if isR w r 4 = 1 then 4 else if isR w r 5 = 1 then 5 else -1
def ttR (w t r : Int → Int) : RES := if tnO r 0 9999 = 1 then (1, updI t 1 (tnR w r 0 9999 6), tnR w r 0 9999) else (0, t, r)
def tiR (w t r : Int → Int) : RES := if kdR w r ≠ -1 then tuA w t r (kdR w r) else if isR w r 9 = 1 then trR w t (stR w r) else if isR w r 10 = 1 then tfR w t (stR w r) 1 else if isR w r 11 = 1 then tfR w t (stR w r) 0 else if isR w r 12 = 1 then ttR w t (stR w r) else (0, t, r)
def riF (w : Int → Int) : Nat → (Int → Int) → (Int → Int) → RES
  | 0, t, r => (-1 - r 3, t, r)
  | f + 1, t, r => if (tiR w t r).1 = 1 then (if (tiR w t r).2.2 2 = 3 then (120 - (f : Int), (tiR w t r).2) else if (tiR w t r).2.2 2 = 2 then riF w f (tiR w t r).2.1 (stR w (tiR w t r).2.2) else (-1 - (tiR w t r).2.2 3, (tiR w t r).2)) else (-1 - (tiR w t r).2.2 3, (tiR w t r).2)
def riR (w t r : Int → Int) : RES := riF w 120 t (stR w (updI r 4 0))
/-- what holds of the reader at work -/
def TG (w r : Int → Int) : Prop := (0 ≤ r 1 ∧ r 1 ≤ 120) ∧ (0 ≤ r 4 ∧ r 4 ≤ r 1) ∧ ∀ k, 0 ≤ k → k < r 1 → 0 ≤ w k ∧ w k ≤ 255
def RG (w r : Int → Int) : Prop := TG w r ∧ (0 ≤ r 3 ∧ r 3 ≤ r 4) ∧ (0 ≤ r 2 ∧ r 2 ≤ 4) ∧ (r 2 = 1 → 0 ≤ r 5 ∧ r 5 ≤ 10000) ∧ (r 2 = 0 → r 3 < r 4 ∧ ∀ q, r 3 ≤ q → q < r 4 → 97 ≤ w q ∧ w q ≤ 122) ∧ (r 2 = 2 → r 4 = r 3 + 1)
theorem bg_in {w r : Int → Int} (h : TG w r) : r 4 ≤ bgP w (r 1) (r 4) ∧ bgP w (r 1) (r 4) ≤ r 1 := by
  have := sc_in 32 32 w (r 1) (r 4)
  unfold bgP
  exact ⟨this.1, this.2.1 h.2.1.2⟩
theorem en_in (w : Int → Int) {n b : Int} (h : b ≤ n) : b ≤ enP w n b ∧ enP w n b ≤ n := by
  have a := sc_in 97 122 w n b
  have c := sc_in 48 57 w n b
  have a2 := a.2.1 h
  have c2 := c.2.1 h
  unfold enP
  omega
theorem RG_st {w r : Int → Int} (h : TG w r) : RG w (stR w r) ∧ r 4 ≤ stR w r 3 := by
  have hb := bg_in h
  have he := en_in w hb.2
  obtain ⟨h1, h2, h3⟩ := h
  have e1 : stR w r 1 = r 1 := rfl
  have e2 : stR w r 2 = soP w (r 1) (bgP w (r 1) (r 4)) := rfl
  have e3 : stR w r 3 = bgP w (r 1) (r 4) := rfl
  have e4 : stR w r 4 = enP w (r 1) (bgP w (r 1) (r 4)) := rfl
  have e5 : stR w r 5 = nuP w (r 1) (bgP w (r 1) (r 4)) (r 5) := rfl
  refine ⟨⟨⟨by rw [e1]; exact h1, by rw [e1, e4]; omega, by rw [e1]; exact h3⟩, by rw [e3, e4]; omega, ?_, ?_, ?_, ?_⟩, by rw [e3]; exact hb.1⟩
  · rw [e2]; unfold soP; omega
  · rw [e2, e5]
    intro q
    unfold nuP
    rw [if_pos q]
    exact vl_in _ _ _
  · rw [e2, e3, e4]
    intro q
    have a := sc_in 97 122 w (r 1) (bgP w (r 1) (r 4))
    have hq : ¬ r 1 ≤ bgP w (r 1) (r 4) ∧ (97 ≤ w (bgP w (r 1) (r 4)) ∧ w (bgP w (r 1) (r 4)) ≤ 122) := by unfold soP at q; omega
    unfold enP
    rw [if_neg hq.1, if_pos hq.2]
    have a1 := sc_in 97 122 w (r 1) (bgP w (r 1) (r 4) + 1)
    rw [sc_y (k := bgP w (r 1) (r 4)) ⟨by omega, hq.2⟩] at a1
    exact ⟨by omega, fun z z1 z2 => (a.2.2 z z1 z2).2⟩
  · rw [e2, e3, e4]
    intro q
    have hq : ¬ r 1 ≤ bgP w (r 1) (r 4) ∧ ¬ (97 ≤ w (bgP w (r 1) (r 4)) ∧ w (bgP w (r 1) (r 4)) ≤ 122) ∧ ¬ (48 ≤ w (bgP w (r 1) (r 4)) ∧ w (bgP w (r 1) (r 4)) ≤ 57) := by unfold soP at q; omega
    unfold enP
    rw [if_neg hq.1, if_neg hq.2.1, if_neg hq.2.2]
theorem RG.stp {w r : Int → Int} (h : RG w r) : RG w (stR w r) := (RG_st h.1).1
theorem RG.lov {w r : Int → Int} (h : RG w r) : r 3 ≤ stR w r 3 := by have := (RG_st h.1).2; have := h.2.1; omega
theorem TG_u {w r : Int → Int} (h : TG w r) (v : Int) : TG w (updI r 6 v) := h
theorem RG.tn {w r : Int → Int} (h : RG w r) (lo hi : Int) : RG w (tnR w r lo hi) ∧ r 3 ≤ tnR w r lo hi 3 ∧ (tnO r lo hi = 1 → tnR w r lo hi 6 = r 5 ∧ lo ≤ r 5 ∧ r 5 ≤ hi) := by
  unfold tnR tnO
  by_cases q : r 2 = 1 ∧ lo ≤ r 5 ∧ r 5 ≤ hi
  · rw [if_pos q, if_pos q]
    have a := RG_st (TG_u h.1 (r 5))
    have b := h.2.1
    have c : updI r 6 (r 5) 4 = r 4 := rfl
    exact ⟨a.1, by omega, fun _ => ⟨rfl, q.2⟩⟩
  · rw [if_neg q, if_neg q]
    exact ⟨h, Int.le_refl _, fun z => by omega⟩
theorem isR_in (w r : Int → Int) (i : Nat) : isR w r i = 0 ∨ isR w r i = 1 := by
  unfold isR
  have := isW_in w (r 3) (r 4) i
  omega
theorem tnO_in (r : Int → Int) (lo hi : Int) : tnO r lo hi = 0 ∨ tnO r lo hi = 1 := by unfold tnO; omega
theorem kd_in (w r : Int → Int) : -1 ≤ kdR w r ∧ kdR w r ≤ 5 := by unfold kdR; omega
/-- what holds of an answer of the class's reader: its first number 0 or 1, the town's number of fountains, the reader -/
def RO (w r : Int → Int) (q : RES) : Prop := (q.1 = 0 ∨ q.1 = 1) ∧ (0 ≤ q.2.1 4 ∧ q.2.1 4 ≤ 8) ∧ RG w q.2.2 ∧ r 3 ≤ q.2.2 3
theorem RO.le {w r r' : Int → Int} {q : RES} (h : RO w r' q) (hr : r 3 ≤ r' 3) : RO w r q := ⟨h.1, h.2.1, h.2.2.1, by have := h.2.2.2; omega⟩
theorem RO_0 {w t r : Int → Int} (h4 : 0 ≤ t 4 ∧ t 4 ≤ 8) (h : RG w r) : RO w r (0, t, r) := ⟨Or.inl rfl, h4, h, Int.le_refl _⟩
theorem RO_1 {w t r : Int → Int} (h4 : 0 ≤ t 4 ∧ t 4 ≤ 8) (h : RG w r) : RO w r (1, t, r) := ⟨Or.inr rfl, h4, h, Int.le_refl _⟩
theorem u4 {t : Int → Int} {k v : Int} (h4 : 0 ≤ t 4 ∧ t 4 ≤ 8) (h : k ≠ 4) : 0 ≤ updI t k v 4 ∧ updI t k v 4 ≤ 8 := by rw [updI_ne _ _ (fun q => h q.symm)]; exact h4
theorem RO_trB {w t r : Int → Int} {k : Int} (h4 : 0 ≤ t 4 ∧ t 4 ≤ 8) (h : RG w r) (hk : 0 ≤ k) : RO w r (trB w t r k) := by
  unfold trB
  have a := h.tn 0 99
  split
  · exact (RO_1 (u4 h4 (by omega)) a.1).le a.2.1
  · exact RO_0 h4 h
theorem RO_tr {w t r : Int → Int} (h4 : 0 ≤ t 4 ∧ t 4 ≤ 8) (h : RG w r) : RO w r (trR w t r) := by
  unfold trR
  have a := h.tn 0 7
  by_cases q : tnO r 0 7 = 1
  · rw [if_pos q]
    have b := a.2.2 q
    exact (RO_trB h4 a.1 (by omega)).le a.2.1
  · rw [if_neg q]; exact RO_0 h4 h
theorem RO_tf {w t r : Int → Int} {c : Int} (h4 : 0 ≤ t 4 ∧ t 4 ≤ 8) (h : RG w r) : RO w r (tfR w t r c) := by
  unfold tfR
  have a := h.tn 0 7
  by_cases q : tnO r 0 7 = 1
  · rw [if_pos q]
    have b := a.2.2 q
    exact (RO_1 (u4 h4 (by omega)) a.1).le a.2.1
  · rw [if_neg q]; exact RO_0 h4 h
theorem RO_tt {w t r : Int → Int} (h4 : 0 ≤ t 4 ∧ t 4 ≤ 8) (h : RG w r) : RO w r (ttR w t r) := by
  unfold ttR
  have a := h.tn 0 9999
  split
  · exact (RO_1 (u4 h4 (by decide)) a.1).le a.2.1
  · exact RO_0 h4 h
theorem RO_D {w t r : Int → Int} {i : Int} (h4 : 0 ≤ t 4 ∧ t 4 ≤ 8) (h : RG w r) (hi : 0 ≤ i) : RO w r (tuD w t r i) := by
  unfold tuD
  split
  · exact (RO_1 (u4 h4 (by omega)) h.stp).le h.lov
  · exact RO_1 h4 h
theorem RO_C {w t r : Int → Int} {i : Int} (h4 : 0 ≤ t 4 ∧ t 4 ≤ 8) (h : RG w r) (hi : 0 ≤ i) : RO w r (tuC w t r i) := by
  unfold tuC
  have a := h.stp.tn 0 99
  split
  · split
    · exact (RO_D (u4 h4 (by omega)) a.1 hi).le (by have := h.lov; omega)
    · exact (RO_0 h4 h.stp).le h.lov
  · exact RO_D h4 h hi
theorem RO_B {w t r : Int → Int} {i : Int} (h4 : 0 ≤ t 4 ∧ t 4 ≤ 8) (h : RG w r) (hi : 0 ≤ i) : RO w r (tuB w t r i) := by
  unfold tuB
  have a := h.stp.tn 1 40
  split
  · split
    · exact (RO_C (u4 h4 (by omega)) a.1 hi).le (by have := h.lov; omega)
    · exact (RO_0 h4 h.stp).le h.lov
  · exact RO_C h4 h hi
theorem add_4 (t : Int → Int) (kd : Int) : addP t kd 4 = t 4 + 1 := by unfold addP; exact updI_at _ _ _
theorem RO_A {w t r : Int → Int} {kd : Int} (h4 : 0 ≤ t 4 ∧ t 4 ≤ 8) (h : RG w r) : RO w r (tuA w t r kd) := by
  unfold tuA
  split
  · exact RO_0 h4 h
  · exact (RO_B (by rw [add_4]; omega) h.stp h4.1).le h.lov
theorem RO_ti {w t r : Int → Int} (h4 : 0 ≤ t 4 ∧ t 4 ≤ 8) (h : RG w r) : RO w r (tiR w t r) := by
  unfold tiR
  split
  · exact RO_A h4 h
  split
  · exact (RO_tr h4 h.stp).le h.lov
  split
  · exact (RO_tf h4 h.stp).le h.lov
  split
  · exact (RO_tf h4 h.stp).le h.lov
  split
  · exact (RO_tt h4 h.stp).le h.lov
  · exact RO_0 h4 h
/-- the reference -/
def paO (s : Int → Int) (i : Int) : Int := if s 6 = 0 ∧ s 2 = i then 1 else 0
def paM (w s : Int → Int) (i : Int) : Int → Int := if s 6 = 0 ∧ s 2 = i then rdM w s else s
abbrev nuG (s : Int → Int) (lo hi : Int) : Prop := s 6 = 0 ∧ s 2 = 20 ∧ lo ≤ s 5 ∧ s 5 ≤ hi
def nuM (w s : Int → Int) (lo hi : Int) : Int → Int := if nuG s lo hi then rdM w (updI s 6 0) else updI s 6 1
def peV (w s : Int → Int) (i so : Int) : Int := if paO s i = 1 then rdM w s 5 else so
def peM (w s : Int → Int) (i lo hi : Int) : Int → Int := if paO s i = 1 then nuM w (rdM w s) lo hi else s
abbrev REM : Type := (Int → Int) × (Int → Int)
def fiS0 (w s : Int → Int) : Int → Int := rdM w (updI s 6 0)
def fiS1 (w s : Int → Int) : Int → Int := peM w (fiS0 w s) 6 1 40
def fiS2 (w s : Int → Int) : Int → Int := peM w (fiS1 w s) 7 0 99
def fiS3 (w s : Int → Int) : Int → Int := paM w (fiS2 w s) 8
def fiM (w t s : Int → Int) : REM := if t 4 = 8 then (t, updI s 6 1) else (if fiS3 w s 6 = 0 then newP t (s 2) (peV w (fiS0 w s) 6 10) (paO (fiS2 w s) 8) (peV w (fiS1 w s) 7 20) else t, fiS3 w s)
def raM (w t s : Int → Int) : REM := (if nuM w (nuM w s 0 7) 0 99 6 = 0 then updI t (5 + s 5) (nuM w s 0 7 5) else t, nuM w (nuM w s 0 7) 0 99)
def coM (w t s : Int → Int) : REM := (if nuM w (rdM w s) 0 7 6 = 0 then updI t (13 + rdM w s 5) (if s 2 = 10 then 1 else 0) else t, nuM w (rdM w s) 0 7)
def itM (w t s : Int → Int) : REM := if s 2 ≤ 5 then fiM w t s else if paO s 9 = 1 then raM w t (rdM w s) else if s 2 = 10 ∨ s 2 = 11 then coM w t s else if paO s 12 = 1 then (updI t 1 (rdM w s 5), nuM w (rdM w s) 0 9999) else (t, updI s 6 1)
def twF (w : Int → Int) : Nat → Int → (Int → Int) → (Int → Int) → RES
  | 0, k, t, s => (k, t, s)
  | f + 1, k, t, s => if paO s 21 = 1 then twF w f (k + 1) (itM w t (rdM w s)).1 (itM w t (rdM w s)).2 else (k, t, s)
def twM (w t s : Int → Int) : RES := twF w 121 1 (itM w t (rdM w (updI (updI s 4 0) 6 0))).1 (itM w t (rdM w (updI (updI s 4 0) 6 0))).2
def MG (w s : Int → Int) : Prop := TG w s ∧ (0 ≤ s 3 ∧ s 3 ≤ s 4) ∧ (0 ≤ s 2 ∧ s 2 ≤ 23) ∧ (0 ≤ s 5 ∧ s 5 ≤ 100000) ∧ (s 6 = 0 ∨ s 6 = 1) ∧ (s 2 = 21 → s 4 = s 3 + 1)
theorem MG_rd {w s : Int → Int} (h : TG w s) (h6 : s 6 = 0 ∨ s 6 = 1) : MG w (rdM w s) ∧ s 4 ≤ rdM w s 3 := by
  have hb := bg_in h
  have he := en_in w hb.2
  obtain ⟨h1, h2, h3⟩ := h
  have e1 : rdM w s 1 = s 1 := rfl
  have e2 : rdM w s 2 = toP w (s 1) (bgP w (s 1) (s 4)) := rfl
  have e3 : rdM w s 3 = bgP w (s 1) (s 4) := rfl
  have e4 : rdM w s 4 = enP w (s 1) (bgP w (s 1) (s 4)) := rfl
  have e5 : rdM w s 5 = vaP w (s 1) (bgP w (s 1) (s 4)) := rfl
  have e6 : rdM w s 6 = s 6 := rfl
  have hwd := wd_in w (bgP w (s 1) (s 4)) (scP 97 122 w (s 1) (bgP w (s 1) (s 4)) - bgP w (s 1) (s 4)) 13
  refine ⟨⟨⟨by rw [e1]; exact h1, by rw [e1, e4]; omega, by rw [e1]; exact h3⟩, by rw [e3, e4]; omega, ?_, ?_, by rw [e6]; exact h6, ?_⟩, by rw [e3]; exact hb.1⟩
  · rw [e2]; unfold toP wdP; omega
  · rw [e5]
    unfold vaP
    have := vr_in w (s 1) (bgP w (s 1) (s 4))
    split <;> omega
  · rw [e2, e3, e4]
    intro q
    have hq : ¬ s 1 ≤ bgP w (s 1) (s 4) ∧ ¬ (97 ≤ w (bgP w (s 1) (s 4)) ∧ w (bgP w (s 1) (s 4)) ≤ 122) ∧ ¬ (48 ≤ w (bgP w (s 1) (s 4)) ∧ w (bgP w (s 1) (s 4)) ≤ 57) := by unfold toP wdP at q; omega
    unfold enP
    rw [if_neg hq.1, if_neg hq.2.1, if_neg hq.2.2]
theorem MG.rd {w s : Int → Int} (h : MG w s) : MG w (rdM w s) := (MG_rd h.1 h.2.2.2.2.1).1
theorem MG.lov {w s : Int → Int} (h : MG w s) : s 3 ≤ rdM w s 3 := by have := (MG_rd h.1 h.2.2.2.2.1).2; have := h.2.1; omega
theorem MG.u6 {w s : Int → Int} (h : MG w s) {v : Int} (hv : v = 0 ∨ v = 1) : MG w (updI s 6 v) := ⟨h.1, h.2.1, h.2.2.1, h.2.2.2.1, hv, h.2.2.2.2.2⟩
theorem MG.pa {w s : Int → Int} (h : MG w s) (i : Int) : MG w (paM w s i) ∧ s 3 ≤ paM w s i 3 := by
  unfold paM
  split
  · exact ⟨h.rd, h.lov⟩
  · exact ⟨h, Int.le_refl _⟩
theorem MG.nu {w s : Int → Int} (h : MG w s) (lo hi : Int) : MG w (nuM w s lo hi) ∧ s 3 ≤ nuM w s lo hi 3 ∧ (nuM w s lo hi 6 = 0 ↔ nuG s lo hi) := by
  unfold nuM
  by_cases q : nuG s lo hi
  · rw [if_pos q]
    have a := h.u6 (v := 0) (Or.inl rfl)
    exact ⟨a.rd, a.lov, fun _ => q, fun _ => rfl⟩
  · rw [if_neg q]
    exact ⟨h.u6 (Or.inr rfl), Int.le_refl _, fun z => absurd z (by rw [updI_at]; decide), fun z => absurd z q⟩
theorem MG.pe {w s : Int → Int} (h : MG w s) (i lo hi : Int) : MG w (peM w s i lo hi) ∧ s 3 ≤ peM w s i lo hi 3 := by
  unfold peM
  have a := h.rd.nu lo hi
  split
  · exact ⟨a.1, by have := h.lov; omega⟩
  · exact ⟨h, Int.le_refl _⟩
theorem paO_in (s : Int → Int) (i : Int) : paO s i = 0 ∨ paO s i = 1 := by unfold paO; omega
/-- what holds of the reference's item -/
def MO (w s : Int → Int) (q : REM) : Prop := (0 ≤ q.1 4 ∧ q.1 4 ≤ 8) ∧ MG w q.2 ∧ s 3 ≤ q.2 3
theorem MO.le {w s s' : Int → Int} {q : REM} (h : MO w s' q) (hs : s 3 ≤ s' 3) : MO w s q := ⟨h.1, h.2.1, by have := h.2.2; omega⟩
theorem MG_fi {w s : Int → Int} (h : MG w s) : MG w (fiS0 w s) ∧ MG w (fiS1 w s) ∧ MG w (fiS2 w s) ∧ MG w (fiS3 w s) ∧ s 3 ≤ fiS3 w s 3 := by
  have a := h.u6 (v := 0) (Or.inl rfl)
  have b : MG w (fiS0 w s) := a.rd
  have b1 : s 3 ≤ fiS0 w s 3 := a.lov
  have c := b.pe 6 1 40
  have d := c.1.pe 7 0 99
  have e := d.1.pa 8
  exact ⟨b, c.1, d.1, e.1, by have c2 := c.2; have d2 := d.2; have e2 := e.2; unfold fiS3 fiS2 fiS1; omega⟩
