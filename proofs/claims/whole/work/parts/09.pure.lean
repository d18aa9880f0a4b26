/-! what the two systems compute, as plain functions of a town t: 0 DAY, 1 TANK, 2 DROUGHT, 3 PLENTY, 4 how many, 5.. RAIN, 13.. COLD, 21 + 5 i: KIND, HIGH, OFF, LOVED, STOOPED -/
theorem narZ {z : Int} (h : z = 0 ∨ z = 1) : narrow .boolean (vI z) = vI z := by rcases h with h | h <;> rw [h] <;> rfl
theorem fitZ {z : Int} (h : z = 0 ∨ z = 1) : fits .boolean (vI z) = true := by rcases h with h | h <;> rw [h] <;> rfl
def VF (t : Int → Int) (i : Int) : Prop := (0 ≤ t (21 + 5 * i) ∧ t (21 + 5 * i) ≤ 5) ∧ (1 ≤ t (21 + 5 * i + 1) ∧ t (21 + 5 * i + 1) ≤ 40) ∧ (0 ≤ t (21 + 5 * i + 2) ∧ t (21 + 5 * i + 2) ≤ 1) ∧ (0 ≤ t (21 + 5 * i + 3) ∧ t (21 + 5 * i + 3) ≤ 99) ∧ (0 ≤ t (21 + 5 * i + 4) ∧ t (21 + 5 * i + 4) ≤ 9999)
def VT (d : Int) (t : Int → Int) : Prop := (0 ≤ t 0 ∧ t 0 ≤ d) ∧ (0 ≤ t 1 ∧ t 1 ≤ 9999) ∧ (0 ≤ t 2 ∧ t 2 ≤ 9999) ∧ (0 ≤ t 3 ∧ t 3 ≤ 9999) ∧ (0 ≤ t 4 ∧ t 4 ≤ 8) ∧ (∀ k, 0 ≤ k → k < 8 → 0 ≤ t (5 + k) ∧ t (5 + k) ≤ 99) ∧ (∀ k, 0 ≤ k → k < 8 → 0 ≤ t (13 + k) ∧ t (13 + k) ≤ 1) ∧ ∀ i, 0 ≤ i → i < t 4 → VF t i
def weekP (t : Int → Int) : Int := t 0 / 7 % 8
def coldP (t : Int → Int) : Int := if t (13 + weekP t) = 1 then 1 else 0
def goP (t : Int → Int) (i : Int) : Int :=
  if t (21 + 5 * i) = 1 then t (21 + 5 * i + 1) * 2 else if t (21 + 5 * i) = 2 then max 1 (t (21 + 5 * i + 1) / 2) else if t (21 + 5 * i) = 3 then 2 else if t (21 + 5 * i) = 4 then max 0 (t (21 + 5 * i + 1) * 2 - t (21 + 5 * i + 3) / 20) else if t (21 + 5 * i) = 5 then 1 else t (21 + 5 * i + 1)
def stillP (t : Int → Int) (i : Int) : Prop := t (21 + 5 * i + 2) = 1 ∧ t (21 + 5 * i) ≠ 5
def usesP (t : Int → Int) (i c : Int) : Int := if t (21 + 5 * i + 2) = 1 ∧ t (21 + 5 * i) ≠ 5 then 0 else if c = 1 then goP t i / 2 else goP t i
def soundP (t : Int → Int) (i : Int) : Int :=
  if t (21 + 5 * i) = 1 then t (21 + 5 * i + 1) + 10 else if t (21 + 5 * i) = 2 then t (21 + 5 * i + 1) / 2 + 5 else if t (21 + 5 * i) = 3 then 1 else if t (21 + 5 * i) = 4 then t (21 + 5 * i + 1) + 10 else if t (21 + 5 * i) = 5 then 1 + t (21 + 5 * i + 3) / 10 else t (21 + 5 * i + 1)
def heardP (t : Int → Int) (i : Int) : Int := if t (21 + 5 * i + 2) = 1 ∧ t (21 + 5 * i) ≠ 5 then 0 else soundP t i
def gainsP (t : Int → Int) (i c : Int) : Int :=
  if t (21 + 5 * i) = 1 then (if 30 < t (21 + 5 * i + 1) then 0 else if t (21 + 5 * i + 2) = 1 then -1 else 1)
  else if t (21 + 5 * i) = 2 then 1
  else if t (21 + 5 * i) = 3 then (if t (21 + 5 * i + 2) = 1 then -1 else 1) + (if c = 1 then 0 else 1)
  else if t (21 + 5 * i) = 4 then (if 30 < t (21 + 5 * i + 1) then 0 else if t (21 + 5 * i + 2) = 1 then -1 else 1) - 1
  else if t (21 + 5 * i) = 5 then max 0 ((if t (21 + 5 * i + 2) = 1 then -1 else 1) + (if c = 1 then 0 else 1))
  else if t (21 + 5 * i + 2) = 1 then -1 else 1
def givesP (t : Int → Int) (i : Int) : Int :=
  if t (21 + 5 * i) = 1 then t (21 + 5 * i + 1) - t (21 + 5 * i + 3) - 20 else if t (21 + 5 * i) = 3 then -200 - t (21 + 5 * i + 3) else if t (21 + 5 * i) = 4 then t (21 + 5 * i + 1) - t (21 + 5 * i + 3) - 15 else if t (21 + 5 * i) = 5 then -400 - t (21 + 5 * i + 3) else t (21 + 5 * i + 1) - t (21 + 5 * i + 3)
/-- sums over the first n -/
def sumP (f : Int → Int) : Nat → Int
  | 0 => 0
  | n + 1 => sumP f n + f n
def noiseP (t : Int → Int) : Int := sumP (heardP t) (t 4).toNat
def allUseP (t : Int → Int) : Int := sumP (fun i => usesP t i (coldP t)) (t 4).toNat
def stoopedP (t : Int → Int) : Int := sumP (fun i => t (21 + 5 * i + 4)) (t 4).toNat
def offsP (t : Int → Int) : Int := sumP (fun i => t (21 + 5 * i + 2) * 2 ^ i.toNat) (t 4).toNat
/-- of the first n that are on the one that gives way most, the least of several; -1: none -/
def mostP (t : Int → Int) : Nat → Int
  | 0 => -1
  | n + 1 => if t (21 + 5 * (n : Int) + 2) = 0 ∧ (mostP t n < 0 ∨ givesP t (mostP t n) < givesP t n) then n else mostP t n
def leastP (t : Int → Int) : Nat → Int
  | 0 => -1
  | n + 1 => if t (21 + 5 * (n : Int) + 2) = 1 ∧ (leastP t n < 0 ∨ givesP t n < givesP t (leastP t n)) then n else leastP t n
def stoopP (t : Int → Int) (i : Int) : Int → Int := updI (updI t (21 + 5 * i + 2) 1) (21 + 5 * i + 4) (min 9999 (t (21 + 5 * i + 4) + 1))
def committeeP (t : Int → Int) : Int → Int :=
  if t 1 < t 2 then (if mostP t (t 4).toNat = -1 then t else stoopP t (mostP t (t 4).toNat))
  else if t 3 ≤ t 1 then (if leastP t (t 4).toNat = -1 then t else updI t (21 + 5 * leastP t (t 4).toNat + 2) 0)
  else t
def flowP (c : Int) (t : Int → Int) (i : Int) : Int → Int :=
  if usesP t i c ≤ t 1 then updI t 1 (t 1 - usesP t i c) else if t (21 + 5 * i) = 5 then t else stoopP t i
def gainP (c : Int) (t : Int → Int) (i : Int) : Int → Int := updI t (21 + 5 * i + 3) (max 0 (min 99 (t (21 + 5 * i + 3) + gainsP t i c)))
def flowsP (c : Int) (t : Int → Int) : Nat → Int → Int
  | 0 => t
  | n + 1 => flowP c (flowsP c t n) n
def gainsAllP (c : Int) (t : Int → Int) : Nat → Int → Int
  | 0 => t
  | n + 1 => gainP c (gainsAllP c t n) n
def rainedP (t : Int → Int) : Int → Int := updI t 1 (min 9999 (t 1 + t (5 + weekP t)))
def eveP (t : Int → Int) : Int → Int := gainsAllP (coldP t) (flowsP (coldP t) (committeeP (rainedP t)) (t 4).toNat) (t 4).toNat
def dayP (t : Int → Int) : Int → Int := updI (eveP t) 0 (t 0 + 1)
def daysP : Nat → (Int → Int) → Int → Int
  | 0, t => t
  | n + 1, t => daysP n (dayP t)
