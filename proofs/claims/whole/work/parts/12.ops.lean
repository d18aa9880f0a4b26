/-! what each call answers, as plain functions -/
theorem days_4 {d : Int} {t : Int → Int} (h : VT d t) (n : Nat) : daysP n t 4 = t 4 := by
  induction n with
  | zero => rfl
  | succ n ih => show dayP (daysP n t) 4 = _; rw [day_4 (VT_days h n), ih]
def endX (x : MS) (r : Int) : MS := if r ≤ -1000000001 then setc x 4 (tallyP (x 4) r) else x
theorem endX_f {x : MS} {r : Int} (h : r ≤ -1000000001) : endX x r = setc x 4 (tallyP (x 4) r) := if_pos h
theorem endX_n {x : MS} {r : Int} (h : -1000000001 < r) : endX x r = x := if_neg (by omega)
def thinkM (y : MS) : MS := setc (setc y 2 (y 0)) 0 (y 0)
abbrev vWater (w v : Int) : Prop := 0 ≤ w ∧ w ≤ 2 ∧ 0 ≤ v ∧ v ≤ 9999
def waterR (t : Int → Int) (w v : Int) : Int := if vWater w v then t (1 + w) else -1000000001
abbrev vWeek (k w v : Int) : Prop := 0 ≤ k ∧ k ≤ 7 ∧ 0 ≤ w ∧ w ≤ 1 ∧ 0 ≤ v ∧ v ≤ (if w = 0 then 99 else 1)
def weekR (t : Int → Int) (k w v : Int) : Int := if vWeek k w v then t (5 + 8 * w + k) else -1000000001
def nowR (t : Int → Int) (w : Int) : Int := if w = 0 then t 0 else if w = 1 then weekP t else if w = 2 then t 1 else if w = 3 then t 2 else if w = 4 then t 3 else if w = 5 then t (5 + weekP t) else if w = 6 then t (13 + weekP t) else if w = 7 then offsN t (t 4).toNat else if w = 8 then noiseP t else if w = 9 then allUseP t else -1000000001
abbrev vKind (k : Int) : Prop := 0 ≤ k ∧ k ≤ 5
def fountainR (t : Int → Int) (k : Int) : Int := if vKind k then (if t 4 = 8 then -1000000002 else t 4) else -1000000001
abbrev vFou (t : Int → Int) (f : Int) : Prop := 0 ≤ f ∧ f < t 4
def ofR (t : Int → Int) (f w : Int) : Int := if vFou t f ∧ 0 ≤ w ∧ w ≤ 8 then (if w = 5 then usesP t f (coldP t) else if w = 6 then heardP t f else if w = 7 then 100 + gainsP t f (coldP t) else if w = 8 then 1000 + givesP t f else t (21 + 5 * f + w)) else -1000000001
abbrev vSet (t : Int → Int) (f w v : Int) : Prop := vFou t f ∧ 1 ≤ w ∧ w ≤ 4 ∧ (if w = 1 then 1 else 0) ≤ v ∧ v ≤ (if w = 1 then 40 else if w = 2 then 1 else if w = 3 then 99 else 9999)
def setR (t : Int → Int) (f w v : Int) : Int := if vSet t f w v then t (21 + 5 * f + w) else -1000000001
def turnR (t : Int → Int) (f k : Int) : Int := if vFou t f ∧ vKind k then t (21 + 5 * f) else -1000000001
def asR (t : Int → Int) (f k : Int) : Int := if vFou t f ∧ vKind k then (if k = 0 ∨ k = t (21 + 5 * f) ∨ (k = 1 ∧ t (21 + 5 * f) = 4) ∨ (k = 3 ∧ t (21 + 5 * f) = 5) then t (21 + 5 * f + 3) else -1000000003) else -1000000001
def nextR (t : Int → Int) : Int := noneR (bestP t 0 1 (t 4).toNat)
abbrev v100 (n : Int) : Prop := 1 ≤ n ∧ n ≤ 100
abbrev v400 (n : Int) : Prop := 0 ≤ n ∧ n ≤ 400
def daysR (t : Int → Int) (n : Int) : Int := if v100 n then (if 99999 < t 0 + n then -1000000005 else daysP n.toNat t 1) else -1000000001
def onV (u : Int → Int) (w : Int) : Int := if w = 0 then u 1 else if w = 1 then noiseP u else offsN u (u 4).toNat
def onR (t : Int → Int) (n w : Int) : Int := if v400 n ∧ 0 ≤ w ∧ w ≤ 2 then onV (daysP n.toNat t) w else -1000000001
def thenR (t : Int → Int) (f n w : Int) : Int := if vFou t f ∧ v400 n ∧ 0 ≤ w ∧ w ≤ 2 then daysP n.toNat t (21 + 5 * f + (2 + w)) else -1000000001
def fallsF (v : Int) : Nat → (Int → Int) → Int
  | 0, _ => 401
  | k + 1, t => if t 1 ≤ v then 400 - (k : Int) else fallsF v k (dayP t)
def farR (r : Int) : Int := if 400 < r then -1000000004 else r
def fallsR (t : Int → Int) (v : Int) : Int := if 0 ≤ v ∧ v ≤ 9999 then farR (fallsF v 401 t) else -1000000001
def offF (f : Int) : Nat → (Int → Int) → Int
  | 0, _ => 401
  | k + 1, t => if t (21 + 5 * f + 2) = 1 then 400 - (k : Int) else offF f k (dayP t)
def offR (t : Int → Int) (f : Int) : Int := if vFou t f then farR (offF f 401 t) else -1000000001
def quietF : Nat → (Int → Int) → Int
  | 0, _ => 401
  | k + 1, t => if noiseP t = 0 then 400 - (k : Int) else quietF k (dayP t)
def quietR (t : Int → Int) : Int := farR (quietF 401 t)
def boF (t : Int → Int) (n : Nat) : Nat → Int × Int
  | 0 => (-1, -1)
  | k + 1 => if t (21 + 5 * (k : Int) + 2) = 1 then boF t n k else if (boF t n k).2 < daysP n (updI t (21 + 5 * (k : Int) + 2) 1) 1 then (k, daysP n (updI t (21 + 5 * (k : Int) + 2) 1) 1) else boF t n k
def bestR (t : Int → Int) (n : Int) : Int := if v100 n then noneR (boF t n.toNat (t 4).toNat).1 else -1000000001
def staysP (t : Int → Int) (f : Int) (n : Nat) : Prop := daysP n t (21 + 5 * f + 4) = t (21 + 5 * f + 4)
def staysI (t : Int → Int) (f : Int) (n : Nat) : Int := if daysP n t (21 + 5 * f + 4) = t (21 + 5 * f + 4) then 1 else 0
def highF (t : Int → Int) (f : Int) (n : Nat) : Nat → Int
  | 0 => -1
  | k + 1 => if staysI (updI t (21 + 5 * f + 1) ((k : Int) + 1)) f n = 1 then (k : Int) + 1 else highF t f n k
def highR (t : Int → Int) (f n : Int) : Int := if vFou t f ∧ v100 n then noneR (highF t f n.toNat 40) else -1000000001
def lovedF (t : Int → Int) (f : Int) (n : Nat) : Nat → Int
  | 0 => -1
  | k + 1 => if staysI (updI t (21 + 5 * f + 3) (99 - (k : Int))) f n = 1 then 99 - (k : Int) else lovedF t f n k
def lovedR (t : Int → Int) (f n : Int) : Int := if vFou t f ∧ v100 n then noneR (lovedF t f n.toNat 100) else -1000000001
def kdF (t : Int → Int) (f : Int) : Nat → Int × Int
  | 0 => (0, -1)
  | k + 1 => if (kdF t f k).2 < offF f 401 (updI t (21 + 5 * f) k) then (k, offF f 401 (updI t (21 + 5 * f) k)) else kdF t f k
def kindR (t : Int → Int) (f : Int) : Int := if vFou t f then (kdF t f 6).1 else -1000000001
def rnF (t : Int → Int) (n : Nat) : Nat → Int × Int
  | 0 => (0, -1)
  | k + 1 => if (rnF t n k).2 < noiseP (daysP n (updI t (5 + (k : Int)) (min 99 (t (5 + (k : Int)) + 10)))) then (k, noiseP (daysP n (updI t (5 + (k : Int)) (min 99 (t (5 + (k : Int)) + 10))))) else rnF t n k
def rainR (t : Int → Int) (n : Int) : Int := if v100 n then (rnF t n.toNat 8).1 else -1000000001
def enF (t : Int → Int) (n : Nat) : Nat → Int
  | 0 => -1
  | k + 1 => if stoopedP (daysP n (updI t 1 (9990 - 10 * (k : Int)))) = stoopedP t then 9990 - 10 * (k : Int) else enF t n k
def enoughR (t : Int → Int) (n : Int) : Int := if 1 ≤ n ∧ n ≤ 60 then noneR (enF t n.toNat 1000) else -1000000001
def ruF (t : Int → Int) (n : Nat) : Nat → Int × Int
  | 0 => (-1, 0)
  | k + 1 => if (ruF t n k).1 < 0 ∨ stoopedP (daysP n (updI t 2 (50 * (k : Int)))) < (ruF t n k).2 then (50 * (k : Int), stoopedP (daysP n (updI t 2 (50 * (k : Int))))) else ruF t n k
def ruleR (t : Int → Int) (n : Int) : Int := if v100 n then (ruF t n.toNat 21).1 else -1000000001
theorem heard_in {t : Int → Int} {i : Int} (h : VF t i) : 0 ≤ heardP t i ∧ heardP t i ≤ 50 := by
  obtain ⟨k1, k2, k3, k4, k5⟩ := h
  simp only [heardP, soundP]
  omega
theorem sum_in {f : Int → Int} {M : Int} (n : Nat) (h : ∀ i : Int, 0 ≤ i → i < n → 0 ≤ f i ∧ f i ≤ M) : 0 ≤ sumP f n ∧ sumP f n ≤ n * M := by
  induction n with
  | zero => simp [sumP]
  | succ n ih =>
    have a := ih (fun i x y => h i x (by omega))
    have b := h n (by omega) (by omega)
    simp only [sumP]
    rw [show ((n + 1 : Nat) : Int) * M = n * M + M by rw [Int.natCast_add, Int.add_mul]; simp]
    omega
theorem noise_in {d : Int} {t : Int → Int} (h : VT d t) : 0 ≤ noiseP t ∧ noiseP t ≤ 400 := by
  have h4 := h.2.2.2.2.1
  have a := sum_in (f := heardP t) (M := 50) (t 4).toNat (fun i x y => heard_in (h.2.2.2.2.2.2.2 i x (by omega)))
  unfold noiseP
  omega
theorem stooped_in {d : Int} {t : Int → Int} (h : VT d t) : 0 ≤ stoopedP t ∧ stoopedP t ≤ 79992 := by
  have h4 := h.2.2.2.2.1
  have a := sum_in (f := fun i => t (21 + 5 * i + 4)) (M := 9999) (t 4).toNat (fun i x y => (h.2.2.2.2.2.2.2 i x (by omega)).2.2.2.2)
  unfold stoopedP
  omega
theorem falls_in (v : Int) (k : Nat) : ∀ t, k ≤ 401 → 401 - (k : Int) ≤ fallsF v k t ∧ fallsF v k t ≤ 401 := by
  induction k with
  | zero => intro t _; simp [fallsF]
  | succ k ih => intro t h; simp only [fallsF]; have := ih (dayP t) (by omega); omega
theorem off_in (f : Int) (k : Nat) : ∀ t, k ≤ 401 → 401 - (k : Int) ≤ offF f k t ∧ offF f k t ≤ 401 := by
  induction k with
  | zero => intro t _; simp [offF]
  | succ k ih => intro t h; simp only [offF]; have := ih (dayP t) (by omega); omega
theorem quiet_in (k : Nat) : ∀ t, k ≤ 401 → 401 - (k : Int) ≤ quietF k t ∧ quietF k t ≤ 401 := by
  induction k with
  | zero => intro t _; simp [quietF]
  | succ k ih => intro t h; simp only [quietF]; have := ih (dayP t) (by omega); omega
theorem VT_rainw {d : Int} {t : Int → Int} {k v : Int} (h : VT d t) (hk : 0 ≤ k ∧ k < 8) (hv : 0 ≤ v ∧ v ≤ 99) : VT d (updI t (5 + k) v) := by
  obtain ⟨v0, v1, v2, v3, v4, v5, v6, v7⟩ := h
  refine ⟨by rw [updI_ne _ _ (by omega)]; exact v0, by rw [updI_ne _ _ (by omega)]; exact v1, by rw [updI_ne _ _ (by omega)]; exact v2, by rw [updI_ne _ _ (by omega)]; exact v3, by rw [updI_ne _ _ (by omega)]; exact v4, fun q a b => ?_, fun q a b => ?_, fun i a b => VF_upd (v7 i a (by rw [updI_ne _ _ (by omega)] at b; exact b)) (Or.inl (by omega))⟩
  · rw [updI_app]; split
    · exact hv
    · exact v5 q a b
  · rw [updI_ne _ _ (by omega)]; exact v6 q a b
theorem VT_coldw {d : Int} {t : Int → Int} {k v : Int} (h : VT d t) (hk : 0 ≤ k ∧ k < 8) (hv : 0 ≤ v ∧ v ≤ 1) : VT d (updI t (13 + k) v) := by
  obtain ⟨v0, v1, v2, v3, v4, v5, v6, v7⟩ := h
  refine ⟨by rw [updI_ne _ _ (by omega)]; exact v0, by rw [updI_ne _ _ (by omega)]; exact v1, by rw [updI_ne _ _ (by omega)]; exact v2, by rw [updI_ne _ _ (by omega)]; exact v3, by rw [updI_ne _ _ (by omega)]; exact v4, fun q a b => ?_, fun q a b => ?_, fun i a b => VF_upd (v7 i a (by rw [updI_ne _ _ (by omega)] at b; exact b)) (Or.inl (by omega))⟩
  · rw [updI_ne _ _ (by omega)]; exact v5 q a b
  · rw [updI_app]; split
    · exact hv
    · exact v6 q a b
theorem VT_drought {d : Int} {t : Int → Int} {v : Int} (h : VT d t) (hv : 0 ≤ v ∧ v ≤ 9999) : VT d (updI t 2 v) := by
  obtain ⟨v0, v1, v2, v3, v4, v5, v6, v7⟩ := h
  refine ⟨v0, v1, by rw [updI_at]; exact hv, v3, v4, fun q a b => ?_, fun q a b => ?_, fun i a b => VF_upd (v7 i a b) (Or.inl (by omega))⟩
  · rw [updI_ne _ _ (by omega)]; exact v5 q a b
  · rw [updI_ne _ _ (by omega)]; exact v6 q a b
theorem VT_plenty {d : Int} {t : Int → Int} {v : Int} (h : VT d t) (hv : 0 ≤ v ∧ v ≤ 9999) : VT d (updI t 3 v) := by
  obtain ⟨v0, v1, v2, v3, v4, v5, v6, v7⟩ := h
  refine ⟨v0, v1, v2, by rw [updI_at]; exact hv, v4, fun q a b => ?_, fun q a b => ?_, fun i a b => VF_upd (v7 i a b) (Or.inl (by omega))⟩
  · rw [updI_ne _ _ (by omega)]; exact v5 q a b
  · rw [updI_ne _ _ (by omega)]; exact v6 q a b
