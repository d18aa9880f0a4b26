/-! the text: scans, tokens, and both readers as plain functions -/
def scF (lo hi : Int) (w : Int → Int) (n : Int) : Nat → Int → Int
  | 0, k => k
  | f + 1, k => if k < n ∧ lo ≤ w k ∧ w k ≤ hi then scF lo hi w n f (k + 1) else k
/-- the first place from k on that isn't a byte of lo to hi -/
def scP (lo hi : Int) (w : Int → Int) (n k : Int) : Int := scF lo hi w n (n - k).toNat k
theorem sc_n {lo hi : Int} {w : Int → Int} {n k : Int} (h : ¬ (k < n ∧ lo ≤ w k ∧ w k ≤ hi)) : scP lo hi w n k = k := by
  unfold scP
  cases (n - k).toNat with
  | zero => rfl
  | succ f => simp only [scF]; rw [if_neg h]
theorem sc_y {lo hi : Int} {w : Int → Int} {n k : Int} (h : k < n ∧ lo ≤ w k ∧ w k ≤ hi) : scP lo hi w n (k + 1) = scP lo hi w n k := by
  unfold scP
  rw [show (n - k).toNat = (n - (k + 1)).toNat + 1 by omega]
  simp only [scF]; rw [if_pos h]
theorem sc_F (lo hi : Int) (w : Int → Int) (n : Int) (f : Nat) : ∀ k, k ≤ scF lo hi w n f k ∧ (k ≤ n → scF lo hi w n f k ≤ n) ∧ ∀ q, k ≤ q → q < scF lo hi w n f k → q < n ∧ lo ≤ w q ∧ w q ≤ hi := by
  induction f with
  | zero => intro k; simp only [scF]; exact ⟨Int.le_refl _, fun h => h, fun q a b => by omega⟩
  | succ f ih =>
    intro k
    simp only [scF]
    by_cases h : k < n ∧ lo ≤ w k ∧ w k ≤ hi
    · rw [if_pos h]
      obtain ⟨a, b, c⟩ := ih (k + 1)
      refine ⟨by omega, fun _ => b (by omega), fun q q1 q2 => ?_⟩
      rcases (show q = k ∨ k + 1 ≤ q by omega) with e | e
      · subst e; exact h
      · exact c q e q2
    · rw [if_neg h]
      exact ⟨Int.le_refl _, fun h => h, fun q a b => by omega⟩
theorem sc_in (lo hi : Int) (w : Int → Int) (n k : Int) : k ≤ scP lo hi w n k ∧ (k ≤ n → scP lo hi w n k ≤ n) ∧ ∀ q, k ≤ q → q < scP lo hi w n k → q < n ∧ lo ≤ w q ∧ w q ≤ hi := sc_F lo hi w n _ k
/-- the value of digits, held at 10000 (the class), or let be above 9999 (the reference) -/
def vlF (w : Int → Int) (n : Int) : Nat → Int → Int → Int
  | 0, _, v => v
  | f + 1, k, v => if k < n ∧ 48 ≤ w k ∧ w k ≤ 57 then vlF w n f (k + 1) (min 10000 (v * 10 + w k - 48)) else v
def vlP (w : Int → Int) (n k v : Int) : Int := vlF w n (n - k).toNat k v
def vrF (w : Int → Int) (n : Int) : Nat → Int → Int → Int
  | 0, _, v => v
  | f + 1, k, v => if k < n ∧ 48 ≤ w k ∧ w k ≤ 57 then vrF w n f (k + 1) (if 9999 < v then v else 10 * v + w k - 48) else v
def vrP (w : Int → Int) (n k v : Int) : Int := vrF w n (n - k).toNat k v
theorem vl_n {w : Int → Int} {n k v : Int} (h : ¬ (k < n ∧ 48 ≤ w k ∧ w k ≤ 57)) : vlP w n k v = v := by
  unfold vlP
  cases (n - k).toNat with
  | zero => rfl
  | succ f => simp only [vlF]; rw [if_neg h]
theorem vl_y {w : Int → Int} {n k v : Int} (h : k < n ∧ 48 ≤ w k ∧ w k ≤ 57) : vlP w n (k + 1) (min 10000 (v * 10 + w k - 48)) = vlP w n k v := by
  unfold vlP
  rw [show (n - k).toNat = (n - (k + 1)).toNat + 1 by omega]
  simp only [vlF]; rw [if_pos h]
theorem vr_n {w : Int → Int} {n k v : Int} (h : ¬ (k < n ∧ 48 ≤ w k ∧ w k ≤ 57)) : vrP w n k v = v := by
  unfold vrP
  cases (n - k).toNat with
  | zero => rfl
  | succ f => simp only [vrF]; rw [if_neg h]
theorem vr_y {w : Int → Int} {n k v : Int} (h : k < n ∧ 48 ≤ w k ∧ w k ≤ 57) : vrP w n (k + 1) (if 9999 < v then v else 10 * v + w k - 48) = vrP w n k v := by
  unfold vrP
  rw [show (n - k).toNat = (n - (k + 1)).toNat + 1 by omega]
  simp only [vrF]; rw [if_pos h]
theorem vl_F (w : Int → Int) (n : Int) (f : Nat) : ∀ k v, 0 ≤ v ∧ v ≤ 10000 → 0 ≤ vlF w n f k v ∧ vlF w n f k v ≤ 10000 := by
  induction f with
  | zero => intro k v h; exact h
  | succ f ih =>
    intro k v h
    simp only [vlF]
    split
    · exact ih _ _ (by omega)
    · exact h
theorem vl_in (w : Int → Int) (n k : Int) : 0 ≤ vlP w n k 0 ∧ vlP w n k 0 ≤ 10000 := vl_F w n _ k 0 (by decide)
theorem vr_F (w : Int → Int) (n : Int) (f : Nat) : ∀ k v, 0 ≤ v ∧ v ≤ 100000 → 0 ≤ vrF w n f k v ∧ vrF w n f k v ≤ 100000 := by
  induction f with
  | zero => intro k v h; exact h
  | succ f ih =>
    intro k v h
    simp only [vrF]
    split
    · exact ih _ _ (by omega)
    · exact h
theorem vr_in (w : Int → Int) (n k : Int) : 0 ≤ vrP w n k 0 ∧ vrP w n k 0 ≤ 100000 := vr_F w n _ k 0 (by decide)
theorem vlr_F (w : Int → Int) (n : Int) (f : Nat) : ∀ k v, 0 ≤ v → vlF w n f k (min 10000 v) = min 10000 (vrF w n f k v) := by
  induction f with
  | zero => intro k v h; rfl
  | succ f ih =>
    intro k v h
    simp only [vlF, vrF]
    by_cases hd : k < n ∧ 48 ≤ w k ∧ w k ≤ 57
    · rw [if_pos hd, if_pos hd, ← ih _ _ (by omega)]
      congr 1
      omega
    · rw [if_neg hd, if_neg hd]
theorem vlr (w : Int → Int) (n k : Int) : vlP w n k 0 = min 10000 (vrP w n k 0) := vlr_F w n _ k 0 (by decide)
/-- words -/
def lenW (i : Nat) : Int := ((sw_len.getD i 0 : Nat) : Int)
def eqF (w : Int → Int) (b : Int) (i : Nat) : Nat → Int
  | 0 => 1
  | k + 1 => if eqF w b i k = 1 ∧ nm_row.getD (7 * i + k) 0 = w (b + (k : Int)) then 1 else 0
def isW (w : Int → Int) (b e : Int) (i : Nat) : Int := if e - b = lenW i then eqF w b i (sw_len.getD i 0) else 0
theorem eq_in (w : Int → Int) (b : Int) (i k : Nat) : eqF w b i k = 0 ∨ eqF w b i k = 1 := by
  cases k with
  | zero => exact Or.inr rfl
  | succ k => simp only [eqF]; omega
theorem eq_0 {w : Int → Int} {b : Int} {i k : Nat} (h : eqF w b i k = 0) : ∀ m, k ≤ m → eqF w b i m = 0 := by
  intro m hm
  induction m with
  | zero => rw [show k = 0 by omega] at h; exact h
  | succ m ih =>
    rcases (show k = m + 1 ∨ k ≤ m by omega) with e | e
    · rw [← e]; exact h
    · simp only [eqF]; rw [ih e]; simp
theorem eq_y {w : Int → Int} {b : Int} {i k : Nat} (h : eqF w b i k = 1) : ∀ q : Nat, q < k → nm_row.getD (7 * i + q) 0 = w (b + (q : Int)) := by
  induction k with
  | zero => intro q hq; omega
  | succ k ih =>
    intro q hq
    simp only [eqF] at h
    by_cases hh : eqF w b i k = 1 ∧ nm_row.getD (7 * i + k) 0 = w (b + (k : Int))
    · rcases (show q = k ∨ q < k by omega) with e | e
      · subst e; exact hh.2
      · exact ih hh.1 q e
    · rw [if_neg hh] at h; omega
theorem eq_of {w : Int → Int} {b : Int} {i k : Nat} (h : ∀ q : Nat, q < k → nm_row.getD (7 * i + q) 0 = w (b + (q : Int))) : eqF w b i k = 1 := by
  induction k with
  | zero => rfl
  | succ k ih => simp only [eqF]; rw [if_pos ⟨ih (fun q hq => h q (by omega)), h k (by omega)⟩]
theorem isW_in (w : Int → Int) (b e : Int) (i : Nat) : isW w b e i = 0 ∨ isW w b e i = 1 := by
  unfold isW
  have := eq_in w b i (sw_len.getD i 0)
  omega
theorem nm_len : ∀ i : Nat, i < 13 → (1 ≤ sw_len.getD i 0 ∧ sw_len.getD i 0 ≤ 6) ∧ ∀ k : Nat, k < 7 → (k < sw_len.getD i 0 → nm_row.getD (7 * i + k) 0 ≠ 0) ∧ (sw_len.getD i 0 ≤ k → nm_row.getD (7 * i + k) 0 = 0) := by decide +kernel
theorem nm_apart : ∀ i : Nat, i < 13 → ∀ j : Nat, j < 13 → sw_len.getD i 0 = sw_len.getD j 0 → (∀ k : Nat, k < 7 → k < sw_len.getD i 0 → nm_row.getD (7 * i + k) 0 = nm_row.getD (7 * j + k) 0) → i = j := by decide +kernel
theorem isW_one {w : Int → Int} {b e : Int} {i j : Nat} (hi : i < 13) (hj : j < 13) (h1 : isW w b e i = 1) (h2 : isW w b e j = 1) : i = j := by
  unfold isW at h1 h2
  by_cases a : e - b = lenW i
  · by_cases c : e - b = lenW j
    · rw [if_pos a] at h1
      rw [if_pos c] at h2
      unfold lenW at a c
      have hl : sw_len.getD i 0 = sw_len.getD j 0 := by omega
      exact nm_apart i hi j hj hl (fun k _ hk => (eq_y h1 k hk).trans (eq_y h2 k (by rw [← hl]; exact hk)).symm)
    · rw [if_neg c] at h2; omega
  · rw [if_neg a] at h1; omega
/-- the reference's names -/
def naP (w : Int → Int) (b z : Int) (i : Nat) : Int := if z ≤ 7 ∧ (z = 7 ∨ nm_row.getD (7 * i + z.toNat) 0 = 0) then eqF w b i z.toNat else 0
theorem na_in (w : Int → Int) (b z : Int) (i : Nat) : naP w b z i = 0 ∨ naP w b z i = 1 := by
  unfold naP
  have := eq_in w b i z.toNat
  split <;> omega
theorem na_isW {w : Int → Int} {b e : Int} {i : Nat} (hi : i < 13) (hz : b < e) (hl : ∀ q, b ≤ q → q < e → 97 ≤ w q ∧ w q ≤ 122) : naP w b (e - b) i = isW w b e i := by
  obtain ⟨⟨l1, l2⟩, hk⟩ := nm_len i hi
  unfold naP isW lenW
  by_cases a : e - b = ((sw_len.getD i 0 : Nat) : Int)
  · rw [if_pos a]
    have hz2 : (e - b).toNat = sw_len.getD i 0 := by omega
    rw [hz2, if_pos ⟨by omega, Or.inr ((hk _ (by omega)).2 (Nat.le_refl _))⟩]
  · rw [if_neg a]
    by_cases c : e - b ≤ 7 ∧ (e - b = 7 ∨ nm_row.getD (7 * i + (e - b).toNat) 0 = 0)
    · rw [if_pos c]
      rcases eq_in w b i (e - b).toNat with h | h
      · exact h
      · exfalso
        have hlen : sw_len.getD i 0 < (e - b).toNat := by
          rcases Nat.lt_or_ge (sw_len.getD i 0) (e - b).toNat with q | q
          · exact q
          · exfalso
            have hne := (hk (e - b).toNat (by omega)).1 (by omega)
            rcases c.2 with c2 | c2
            · omega
            · exact hne c2
        have h0 := (hk (sw_len.getD i 0) (by omega)).2 (Nat.le_refl _)
        have h1 := eq_y h _ hlen
        have h2 := hl (b + ((sw_len.getD i 0 : Nat) : Int)) (by omega) (by omega)
        omega
    · rw [if_neg c]
def wdF (w : Int → Int) (b z : Int) : Nat → Int
  | 0 => 23
  | k + 1 => if naP w b z (12 - k) = 1 then ((12 - k : Nat) : Int) else wdF w b z k
def wdP (w : Int → Int) (b z : Int) : Int := wdF w b z 13
theorem wd_in (w : Int → Int) (b z : Int) (k : Nat) : wdF w b z k = 23 ∨ 0 ≤ wdF w b z k ∧ wdF w b z k ≤ 12 := by
  induction k with
  | zero => exact Or.inl rfl
  | succ k ih => simp only [wdF]; omega
theorem wd_is {w : Int → Int} {b e : Int} (hz : b < e) (hl : ∀ q, b ≤ q → q < e → 97 ≤ w q ∧ w q ≤ 122) (i : Nat) (hi : i < 13) : wdP w b (e - b) = (i : Int) ↔ isW w b e i = 1 := by
  have key : ∀ k : Nat, k ≤ 13 → (wdF w b (e - b) k = 23 ∧ ∀ j : Nat, j < 13 → 13 ≤ j + k → isW w b e j ≠ 1) ∨ ∃ j : Nat, j < 13 ∧ wdF w b (e - b) k = (j : Int) ∧ isW w b e j = 1 := by
    intro k hk
    induction k with
    | zero => exact Or.inl ⟨rfl, fun j h1 h2 => by omega⟩
    | succ k ih =>
      simp only [wdF]
      rw [na_isW (i := 12 - k) (by omega) hz hl]
      by_cases h : isW w b e (12 - k) = 1
      · rw [if_pos h]; exact Or.inr ⟨12 - k, by omega, rfl, h⟩
      · rw [if_neg h]
        rcases ih (by omega) with ⟨a, c⟩ | a
        · refine Or.inl ⟨a, fun j h1 h2 => ?_⟩
          rcases (show j = 12 - k ∨ 13 ≤ j + k by omega) with q | q
          · subst q; exact h
          · exact c j h1 q
        · exact Or.inr a
  unfold wdP
  rcases key 13 (Nat.le_refl _) with ⟨a, c⟩ | ⟨j, hj, a, c⟩
  · rw [a]
    exact ⟨fun h => by omega, fun h => absurd h (c i hi (by omega))⟩
  · rw [a]
    exact ⟨fun h => by rw [show i = j by omega]; exact c, fun h => by rw [isW_one hi hj h c]⟩
