/-! what each call answers: the tape, sheets, images -/
def cutP (b v : Int) : Int := if b = 8 then v.bmod 256 else if b = 16 then v.bmod 65536 else v
theorem bm8 (v : Int) : -128 ≤ v.bmod 256 ∧ v.bmod 256 < 128 := ⟨by have := @Int.le_bmod v 256 (by decide); omega, by have := @Int.bmod_lt v 256 (by decide); omega⟩
theorem bm16 (v : Int) : -32768 ≤ v.bmod 65536 ∧ v.bmod 65536 < 32768 := ⟨by have := @Int.le_bmod v 65536 (by decide); omega, by have := @Int.bmod_lt v 65536 (by decide); omega⟩
theorem cut_in {b v : Int} (h : inL v) : inL (cutP b v) := by
  have a := bm8 v
  have c := bm16 v
  unfold inL at *
  unfold cutP
  omega
abbrev vSheet (s : Int) : Prop := 0 ≤ s ∧ s ≤ 3
/-- a sound sheet: bits, size, numbers -/
def VS (b z : Int) (u : Int → Int) : Prop := (b = 0 ∨ b = 8 ∨ b = 16 ∨ b = 64) ∧ 0 ≤ z ∧ z ≤ 40 ∧ (b = 0 → z = 0) ∧ ∀ k, 0 ≤ k → k < 40 → inL (u k)
def shM (y : MS) (s : Int) : Int → Int := fun k => y 7 (40 * s + k)
def VSM (y : MS) : Prop := ∀ s, 0 ≤ s → s ≤ 3 → VS (y 5 s) (y 6 s) (shM y s)
def nthR (b s : Int) : Int := if vSheet s then (if b = 0 then -1000000006 else 0) else -1000000001
abbrev vBits (b : Int) : Prop := b = 0 ∨ b = 8 ∨ b = 16 ∨ b = 64
def sheetR (s b n : Int) : Int := if vSheet s ∧ vBits b then (if n < 0 then -1000000007 else if 40 < n then -1000000001 else if b = 0 then 0 else n) else -1000000001
abbrev gSheet (s b n : Int) : Prop := (vSheet s ∧ vBits b) ∧ 0 ≤ n ∧ n ≤ 40
def zerP (u : Int → Int) (a c : Int) : Int → Int := fun k => if a ≤ k ∧ k < c then 0 else u k
def whyW (b z s i : Int) : Int := if nthR b s ≠ 0 then nthR b s else if 0 ≤ i ∧ i < z then 0 else -1000000001
def whyC (b z c w s f t g n : Int) : Int := if ¬ (vSheet s ∧ vSheet t) then -1000000001 else if b = 0 ∨ c = 0 then -1000000006 else if b ≠ c then -1000000003 else if 0 ≤ n ∧ 0 ≤ f ∧ 0 ≤ g ∧ n ≤ z - f ∧ n ≤ w - g then 0 else -1000000001
def cpP (u : Int → Int) (a d n : Int) : Int → Int := fun k => if d ≤ k ∧ k < d + n then u (a + (k - d)) else u k
def layT (u t : Int → Int) : Nat → Int → Int
  | 0 => t
  | k + 1 => if 0 ≤ u k ∧ u k ≤ 99 then updI (layT u t k) (5 + (k : Int)) (u k) else layT u t k
def layC (u : Int → Int) : Nat → Int
  | 0 => 0
  | k + 1 => if 0 ≤ u k ∧ u k ≤ 99 then layC u k + 1 else layC u k
def laysN (z : Int) : Nat := (min z 8).toNat
def bookP (u : Int → Int) (a b : Int) (t : Int → Int) (k : Int) : Int → Int := fun q => if a ≤ q ∧ q < a + k then cutP b (daysP (q - a).toNat t 1) else u q
def bkF (u t : Int → Int) : Nat → Int
  | 0 => 1
  | k + 1 => if bkF u t k = 1 ∧ u k = daysP k t 1 then 1 else 0
def asP (t : Int → Int) (f k : Int) : Int → Int := updI (updI t (21 + 5 * f) (k / 40)) (21 + 5 * f + 1) (1 + k % 40)
def manyP (u t : Int → Int) (f z : Int) : Nat → Int := sumP (fun k => bkF u (asP t f k) z.toNat)
def readR (b z : Int) (u t : Int → Int) (s f : Int) : Int := if nthR b s ≠ 0 then nthR b s else if vFou t f then manyP u t f z 240 else -1000000001
def countR (t : Int → Int) (n w : Int) : Int := if w = 0 then t 4 else if w = 1 then n else if w = 2 then popP (offsN t (t 4).toNat) else if w = 3 then stoopedP t else -1000000001
def statusR (u : Int → Int) (w : Int) : Int := if -1 ≤ w ∧ w ≤ 6 then (if w < 0 then sumP u 7 else u w) else -1000000001
def byteP (v : Int) (k : Nat) : Int := v / 256 ^ k % 256
def feedP (w : Int → Int) (m v n k : Int) : Int → Int := fun q => if m ≤ q ∧ q < m + k then byteP v (n - 1 - (q - m)).toNat else w q
def feedR (m n : Int) : Int := if 1 ≤ n ∧ n ≤ 4 then (if 120 < m + n then -1000000002 else m + n) else -1000000001
theorem nth_in (b s : Int) : nthR b s = 0 ∨ nthR b s = -1000000001 ∨ nthR b s = -1000000006 := by unfold nthR; omega
theorem bk_in (u t : Int → Int) (k : Nat) : bkF u t k = 0 ∨ bkF u t k = 1 := by
  cases k with
  | zero => exact Or.inr rfl
  | succ k => simp only [bkF]; omega
theorem bk_0 {u t : Int → Int} {k : Nat} (h : bkF u t k = 0) : ∀ m, k ≤ m → bkF u t m = 0 := by
  intro m hm
  induction m with
  | zero => rw [show k = 0 by omega] at h; exact h
  | succ m ih =>
    rcases (show k = m + 1 ∨ k ≤ m by omega) with e | e
    · rw [← e]; exact h
    · simp only [bkF]; rw [ih e]; simp
theorem lay_4 (u t : Int → Int) (k : Nat) {q : Int} (h : q < 5 ∨ 13 ≤ q) (hk : k ≤ 8) : layT u t k q = t q := by
  induction k with
  | zero => rfl
  | succ k ih =>
    simp only [layT]
    split
    · rw [updI_ne _ _ (by omega)]; exact ih (by omega)
    · exact ih (by omega)
theorem VT_lay {d : Int} {u t : Int → Int} (h : VT d t) (k : Nat) (hk : k ≤ 8) : VT d (layT u t k) := by
  induction k with
  | zero => exact h
  | succ k ih =>
    simp only [layT]
    split
    · exact VT_rainw (ih (by omega)) (by omega) (by assumption)
    · exact ih (by omega)
theorem layC_in (u : Int → Int) (k : Nat) : 0 ≤ layC u k ∧ layC u k ≤ k := by
  induction k with
  | zero => simp [layC]
  | succ k ih => simp only [layC]; omega
theorem many_in (u t : Int → Int) (f z : Int) (k : Nat) : 0 ≤ manyP u t f z k ∧ manyP u t f z k ≤ k := by
  have := sum_in (f := fun k => bkF u (asP t f k) z.toNat) (M := 1) k (fun i _ _ => by have := bk_in u (asP t f i) z.toNat; omega)
  unfold manyP
  omega
theorem VT_as {d : Int} {t : Int → Int} {f k : Int} (h : VT d t) (hf : 0 ≤ f) (hk : 0 ≤ k ∧ k < 240) : VT d (asP t f k) := by
  have a := VT_fou h (i := f) (f := 0) (v := k / 40) hf (by omega) (by omega)
  rw [Int.add_zero] at a
  exact VT_fou a (i := f) (f := 1) (v := 1 + k % 40) hf (by omega) (by omega)
theorem pop_in {s : Int} (h : 0 ≤ s ∧ s < 256) : 0 ≤ popP s ∧ popP s ≤ 8 := by unfold popP; omega
/-- a byte of a number: shifted right with its sign, then its lowest eight bits -/
theorem byte_M (v : Int) (hv : inR v) (k : Nat) (hk : k < 4) : iI (iI v >>> (iI (8 * (k : Int)) &&& 31)).toInt &&& iI 255 = iI (byteP v k) := by
  rw [← iI_of]
  have hs : ((iI (8 * (k : Int)) &&& 31).toBitVec.smod 32).toNat = 8 * k := by
    match k, hk with
    | 0, _ => decide
    | 1, _ => decide
    | 2, _ => decide
    | 3, _ => decide
  have h1 := pk_shr (iI v) (iI (8 * (k : Int)) &&& 31) (8 * k) hs
  rw [iI_toInt hv, Int.shiftRight_eq_div_pow] at h1
  obtain ⟨z, hz⟩ : ∃ z : Int32, z = iI v >>> (iI (8 * (k : Int)) &&& 31) := ⟨_, rfl⟩
  rw [← hz] at h1 ⊢
  have h2 : z &&& iI 255 = nI (z.toBitVec.toNat % 2 ^ 8) := pk_and z 8 (by decide)
  rw [h2]
  show Int32.ofNat _ = Int32.ofInt _
  rw [← Int32.ofInt_eq_ofNat]
  congr 1
  have h3 : (z.toBitVec.toNat : Int) % 256 = z.toInt % 256 := by
    have : z.toInt = z.toBitVec.toInt := rfl
    rw [this, BitVec.toInt_eq_toNat_bmod]
    have h0 := Int.bmod_emod (x := (z.toBitVec.toNat : Int)) (m := 2 ^ 32)
    have hd : (256 : Int) ∣ ((2 ^ 32 : Nat) : Int) := ⟨16777216, by decide⟩
    rw [← Int.emod_emod_of_dvd (z.toBitVec.toNat : Int) hd, ← h0, Int.emod_emod_of_dvd _ hd]
  unfold byteP
  rw [Int.natCast_emod, show ((2 ^ 8 : Nat) : Int) = 256 from rfl, h3, h1]
  congr 2
  rw [show (256 : Int) = 2 ^ 8 from rfl, ← Int.pow_mul]
  simp
