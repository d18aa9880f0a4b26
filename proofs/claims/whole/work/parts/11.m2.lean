/-! 11.m2: laid by the walker out of specM2 -/
def noneR (v : Int) : Int := if v < 0 then -1000000004 else v
/-- a call's end: a finding is counted -/
def endM (y : MS) (r : Int) : MS := if r ≤ -1000000001 then setc y 3 (tallyP (y 3) r) else y
theorem endM_f {y : MS} {r : Int} (h : r ≤ -1000000001) : endM y r = setc y 3 (tallyP (y 3) r) := if_pos h
theorem endM_n {y : MS} {r : Int} (h : -1000000001 < r) : endM y r = y := if_neg (by omega)
theorem VV_use {t : Int → Int} (h : VV t) : (0 ≤ t 0 ∧ t 0 ≤ 2000000) ∧ (0 ≤ t (13 + weekP t) ∧ t (13 + weekP t) ≤ 1) := ⟨h.1, h.2.2.2.2.2.2.1 _ (week_in h).1 (week_in h).2⟩
def newP (t : Int → Int) (k h o v : Int) : Int → Int := updI (updI (updI (updI (updI (updI t 4 (t 4 + 1)) (21 + 5 * t 4) k) (21 + 5 * t 4 + 1) h) (21 + 5 * t 4 + 2) o) (21 + 5 * t 4 + 3) v) (21 + 5 * t 4 + 4) 0
theorem sh_b : ∀ k : Fin 8, ∀ b : Fin 2, iI (b.val : Int) <<< (iI (k.val : Int) &&& 31) = iI ((b.val : Int) * 2 ^ k.val) := by decide +kernel
theorem or_b : ∀ k : Fin 8, ∀ s : Fin 128, s.val < 2 ^ k.val → iI (s.val : Int) ||| iI (2 ^ k.val : Int) = iI ((s.val : Int) + 2 ^ k.val) := by decide +kernel
theorem or_0 : ∀ s : Fin 256, iI (s.val : Int) ||| iI 0 = iI (s.val : Int) := by decide +kernel
theorem sh_of {k : Nat} (hk : k < 8) {b : Int} (hb : 0 ≤ b ∧ b ≤ 1) : iI b <<< (iI (k : Int) &&& 31) = iI (b * 2 ^ k) := by
  have h := sh_b ⟨k, hk⟩ ⟨b.toNat, by omega⟩
  have e : ((b.toNat : Nat) : Int) = b := Int.toNat_of_nonneg hb.1
  simp only [e] at h
  exact h
theorem pw_le {k : Nat} (hk : k < 8) : (2 : Int) ^ k ≤ 128 ∧ 1 ≤ (2 : Int) ^ k := by
  match k, hk with
  | 0, _ => decide
  | 1, _ => decide
  | 2, _ => decide
  | 3, _ => decide
  | 4, _ => decide
  | 5, _ => decide
  | 6, _ => decide
  | 7, _ => decide
theorem or_of {k : Nat} (hk : k < 8) {s b : Int} (hs : 0 ≤ s ∧ s < 2 ^ k) (hb : 0 ≤ b ∧ b ≤ 1) : iI s ||| iI (b * 2 ^ k) = iI (s + b * 2 ^ k) := by
  have hp := pw_le hk
  have e : ((s.toNat : Nat) : Int) = s := Int.toNat_of_nonneg hs.1
  rcases (show b = 0 ∨ b = 1 by omega) with h | h
  · subst h
    have := or_0 ⟨s.toNat, by omega⟩
    simp only [e] at this
    simpa using this
  · subst h
    have hlt : s.toNat < 2 ^ k := by
      have : ((s.toNat : Nat) : Int) < ((2 ^ k : Nat) : Int) := by rw [e]; push_cast; exact hs.2
      exact Int.ofNat_lt.mp this
    have := or_b ⟨k, hk⟩ ⟨s.toNat, by omega⟩ hlt
    simp only [e] at this
    simpa using this
def offsN (t : Int → Int) : Nat → Int
  | 0 => 0
  | n + 1 => offsN t n + t (21 + 5 * (n : Int) + 2) * 2 ^ n
theorem offsN_in {t : Int → Int} (n : Nat) (h : ∀ i : Int, 0 ≤ i → i < n → 0 ≤ t (21 + 5 * i + 2) ∧ t (21 + 5 * i + 2) ≤ 1) : 0 ≤ offsN t n ∧ offsN t n < 2 ^ n := by
  induction n with
  | zero => simp [offsN]
  | succ n ih =>
    have h1 := ih (fun i a b => h i a (by omega))
    have h2 := h n (by omega) (by omega)
    have hp : (0 : Int) < 2 ^ n := Int.pow_pos (by decide)
    simp only [offsN]
    rw [Int.pow_succ]
    rcases (show t (21 + 5 * (n : Int) + 2) = 0 ∨ t (21 + 5 * (n : Int) + 2) = 1 by omega) with e | e <;> rw [e] <;> omega
/-- how many bits -/
def popP (s : Int) : Int := s % 2 + s / 2 % 2 + s / 4 % 2 + s / 8 % 2 + s / 16 % 2 + s / 32 % 2 + s / 64 % 2 + s / 128 % 2
theorem and_b : ∀ r : Fin 256, r.val ≠ 0 → 0 ≤ (iI (r.val : Int) &&& iI ((r.val : Int) - 1)).toInt ∧ (iI (r.val : Int) &&& iI ((r.val : Int) - 1)).toInt < r.val ∧ popP (iI (r.val : Int) &&& iI ((r.val : Int) - 1)).toInt + 1 = popP (r.val : Int) := by decide +kernel
theorem and_of {r : Int} (h : 0 < r ∧ r < 256) : 0 ≤ (iI r &&& iI (r - 1)).toInt ∧ (iI r &&& iI (r - 1)).toInt < r ∧ popP (iI r &&& iI (r - 1)).toInt + 1 = popP r := by
  have e : ((r.toNat : Nat) : Int) = r := Int.toNat_of_nonneg (by omega)
  have := and_b ⟨r.toNat, by omega⟩ (by show r.toNat ≠ 0; omega)
  simp only [e] at this
  exact this
set_option maxHeartbeats 4000000 in
theorem c_X6_finds (l : Launch) (G : GT) (b : Nat → Nat) (y : MS) {f : Int} (h1 : -1000000007 ≤ f ∧ f ≤ -1000000001) : CtI l G yX6_finds cX6_finds 2 (some .int) 1 [.ref (b 0), vI f] (wsM G b y) f (wsM G b (setc y 3 (tallyP (y 3) f))) := by
  refine CtI.of (by decide) (Nat.le_of_ble_eq_true rfl) ?_
  intro p e s m args below meth c A E hr
  refine jx_lv (lv' := [(0, .ref (b 0)), (1, vI f)]) [0, 1] rfl ?_
  refine jx_aload_n E 0 dX6_finds_0 rfl ?_
  refine jx_get E f_X6 4 (v := .ref (b 4)) wm_obj (by decide) wf_X6_19 rfl dX6_finds_1 ?_
  refine jx_ldc E wc_X6_35 dX6_finds_4 ?_
  refine jx_iload_n E 1 dX6_finds_6 rfl ?_
  refine jx_isub E dX6_finds_7 ?_
  refine jx_dup2 E dX6_finds_8 ?_
  refine jx_iald E (v := (y 3) ((-1000000001) - f)) wm_found (row0_at (by omega) (by omega)) (by omega) (by omega) (by decide) dX6_finds_9 ?_
  refine jx_iconst E dX6_finds_10 ?_
  refine jx_iadd E dX6_finds_11 ?_
  refine jx_iast E wm_found (wq_found (by omega) (by omega)) (by omega) (by omega) (by decide) dX6_finds_12 ?_
  refine jx_iload_n E 1 dX6_finds_13 rfl ?_
  exact jx_iret E hr dX6_finds_14 (by first | rfl | omega) (by first | rfl | (congr 1; done))
set_option maxHeartbeats 4000000 in
theorem c_X6_orNone (l : Launch) (G : GT) (b : Nat → Nat) (y : MS) {v : Int} (h1 : inR v ∧ -1000000001 < v) : CtI l G yX6_orNone cX6_orNone 2 (some .int) 2 [.ref (b 0), vI v] (wsM G b y) (noneR v) (wsM G b (endM y (noneR v))) := by
  unfold inR at h1
  refine CtI.of (by decide) (Nat.le_of_ble_eq_true rfl) ?_
  intro p e s m args below meth c A E hr
  refine jx_lv (lv' := [(0, .ref (b 0)), (1, vI v)]) [0, 1] rfl ?_
  refine jx_iload_n E 1 dX6_orNone_0 rfl ?_
  refine jx_if_ge (tgt := 13) E dX6_orNone_1 (by decide) (fun c1 => ?_) (fun c1 => ?_)
  · skip
    refine jx_iload_n E 1 dX6_orNone_13 rfl ?_
    exact jx_iret E hr dX6_orNone_14 (by simp only [noneR]; omega) (by rw [show noneR v = v from (by simp only [noneR]; omega), endM_n (by omega)])
  · skip
    refine jx_aload_n E 0 dX6_orNone_4 rfl ?_
    refine jx_ldc E wc_X6_36 dX6_orNone_5 ?_
    refine jx_callVi E [vI (-1000000004)] [] (c_X6_finds l G b y (f := (-1000000004)) (by omega)) mb_X6_finds mv_X6_finds wl_X6_37 f_X6 wm_obj dX6_orNone_7 ?_
    refine jx_goto (tgt := 14) E dX6_orNone_10 (by decide) ?_
    exact jx_iret E hr dX6_orNone_14 (by simp only [noneR]; omega) (by rw [show noneR v = -1000000004 from (by simp only [noneR]; omega), endM_f (by decide)])
set_option maxHeartbeats 4000000 in
theorem c_X6_copyAll_m_was (l : Launch) (G : GT) (b : Nat → Nat) (y : MS) : CtV l G yX6_copyAll cX6_copyAll 3 none 1 [.ref (b 1), .ref (b 3)] (wsM G b y) (wsM G b (setc y 2 (y 0))) := by
  refine CtV.of (by decide) (Nat.le_of_ble_eq_true rfl) ?_
  intro p e s m args below meth c A E hr
  refine jx_lv (lv' := [(0, .ref (b 1)), (1, .ref (b 3))]) [0, 1] rfl ?_
  refine jx_iconst E dX6_copyAll_0 ?_
  refine jx_istore_n E dX6_copyAll_1 (by decide) [(2, vI 0), (0, .ref (b 1)), (1, .ref (b 3))] rfl ?_
  have LP2 : ∀ (n2 : Nat) (k : Nat), ((k : Int) ≤ 61) → (61 - (k : Int) < n2) → JX p l e (rmL 1) s m args below meth c 3 G A 0 0 (QV below args s G A (wsM G b (setc y 2 (y 0)))) (wsM G b (setc y 2 (mixP (y 0) (y 2) k))) 2 [(2, vI (k : Int)), (0, .ref (b 1)), (1, .ref (b 3))] [] := by
    intro n2
    induction n2 with
    | zero => intro k q1 q2; exfalso; omega
    | succ n2 ih =>
      intro k q1 q2
      refine jx_iload_n E 0 dX6_copyAll_2 rfl ?_
      refine jx_bipush E dX6_copyAll_3 ?_
      refine jx_icmp_ge (tgt := 20) E dX6_copyAll_5 (by decide) (fun c1 => ?_) (fun c1 => ?_)
      · skip
        exact jx_vret E hr dX6_copyAll_20 (by simp only [wsM, setc_app]; simp [show rowI (mixP (y 0) (y 2) (k : Int)) 0 61 = rowI (y 0) 0 61 from rowI_ext (fun q a b => by simp only [mixP]; rw [if_pos (by omega)])])
      · skip
        refine jx_aload_n E 2 dX6_copyAll_8 rfl ?_
        refine jx_iload_n E 0 dX6_copyAll_9 rfl ?_
        refine jx_aload_n E 1 dX6_copyAll_10 rfl ?_
        refine jx_iload_n E 0 dX6_copyAll_11 rfl ?_
        refine jx_iald E (v := (y 0) (k : Int)) wm_m (row0_at (by omega) (by omega)) (by omega) (by omega) (by decide) dX6_copyAll_12 ?_
        refine jx_iast E wm_was (wq_was (by omega) (by omega)) (by omega) (by omega) (by decide) dX6_copyAll_13 ?_
        refine jx_eq (ws' := wsM G b (setc y 2 (updI (mixP (y 0) (y 2) k) (k : Int) ((y 0) (k : Int))))) (congrArg (wsM G b) (by first | rfl | (rw [setc_setc]; rfl) | (simp only [setc_setc, setc_at]; done) | (simp only [setc_setc, setc_at]; rfl) | (funext d; simp only [setc_app]; (repeat' split) <;> first | rfl | omega | simp_all))) ?_
        refine jx_iinc E 0 dX6_copyAll_14 rfl (by decide) [(2, vI ((k : Int) + 1)), (0, .ref (b 1)), (1, .ref (b 3))] rfl ?_
        refine jx_goto (tgt := 2) E dX6_copyAll_17 (by decide) ?_
        rw [show wsM G b (setc y 2 (updI (mixP (y 0) (y 2) k) (k : Int) ((y 0) (k : Int)))) = wsM G b (setc y 2 (mixP (y 0) (y 2) ((k + 1 : Nat) : Int))) from by simp only [wsM, setc_app]; simp [show rowI (updI (mixP (y 0) (y 2) k) (k : Int) ((y 0) (k : Int))) 0 61 = rowI (mixP (y 0) (y 2) ((k : Int) + 1)) 0 61 from rowI_ext (fun q a b => by simp only [mixP, updI_app]; split <;> split <;> first | rfl | omega | (simp_all; done))]]
        exact ih (k + 1) (by omega) (by omega)
  rw [show wsM G b y = wsM G b (setc y 2 (mixP (y 0) (y 2) ((0 : Nat) : Int))) from by rw [show wsM G b (setc y 2 (mixP (y 0) (y 2) ((0 : Nat) : Int))) = wsM G b (setc y 2 (y 2)) from by simp only [wsM, setc_app]; simp [show rowI (mixP (y 0) (y 2) 0) 0 61 = rowI (y 2) 0 61 from rowI_ext (fun k a b => by simp only [mixP]; rw [if_neg (by omega)])], setc_self]]
  exact LP2 62 0 (by omega) (by omega)
set_option maxHeartbeats 4000000 in
theorem c_X6_copyAll_was_m (l : Launch) (G : GT) (b : Nat → Nat) (y : MS) : CtV l G yX6_copyAll cX6_copyAll 3 none 1 [.ref (b 3), .ref (b 1)] (wsM G b y) (wsM G b (setc y 0 (y 2))) := by
  refine CtV.of (by decide) (Nat.le_of_ble_eq_true rfl) ?_
  intro p e s m args below meth c A E hr
  refine jx_lv (lv' := [(0, .ref (b 3)), (1, .ref (b 1))]) [0, 1] rfl ?_
  refine jx_iconst E dX6_copyAll_0 ?_
  refine jx_istore_n E dX6_copyAll_1 (by decide) [(2, vI 0), (0, .ref (b 3)), (1, .ref (b 1))] rfl ?_
  have LP2 : ∀ (n2 : Nat) (k : Nat), ((k : Int) ≤ 61) → (61 - (k : Int) < n2) → JX p l e (rmL 1) s m args below meth c 3 G A 0 0 (QV below args s G A (wsM G b (setc y 0 (y 2)))) (wsM G b (setc y 0 (mixP (y 2) (y 0) k))) 2 [(2, vI (k : Int)), (0, .ref (b 3)), (1, .ref (b 1))] [] := by
    intro n2
    induction n2 with
    | zero => intro k q1 q2; exfalso; omega
    | succ n2 ih =>
      intro k q1 q2
      refine jx_iload_n E 0 dX6_copyAll_2 rfl ?_
      refine jx_bipush E dX6_copyAll_3 ?_
      refine jx_icmp_ge (tgt := 20) E dX6_copyAll_5 (by decide) (fun c1 => ?_) (fun c1 => ?_)
      · skip
        exact jx_vret E hr dX6_copyAll_20 (by simp only [wsM, setc_app]; simp [show rowI (mixP (y 2) (y 0) (k : Int)) 0 61 = rowI (y 2) 0 61 from rowI_ext (fun q a b => by simp only [mixP]; rw [if_pos (by omega)])])
      · skip
        refine jx_aload_n E 2 dX6_copyAll_8 rfl ?_
        refine jx_iload_n E 0 dX6_copyAll_9 rfl ?_
        refine jx_aload_n E 1 dX6_copyAll_10 rfl ?_
        refine jx_iload_n E 0 dX6_copyAll_11 rfl ?_
        refine jx_iald E (v := (y 2) (k : Int)) wm_was (row0_at (by omega) (by omega)) (by omega) (by omega) (by decide) dX6_copyAll_12 ?_
        refine jx_iast E wm_m (wq_m (by omega) (by omega)) (by omega) (by omega) (by decide) dX6_copyAll_13 ?_
        refine jx_eq (ws' := wsM G b (setc y 0 (updI (mixP (y 2) (y 0) k) (k : Int) ((y 2) (k : Int))))) (congrArg (wsM G b) (by first | rfl | (rw [setc_setc]; rfl) | (simp only [setc_setc, setc_at]; done) | (simp only [setc_setc, setc_at]; rfl) | (funext d; simp only [setc_app]; (repeat' split) <;> first | rfl | omega | simp_all))) ?_
        refine jx_iinc E 0 dX6_copyAll_14 rfl (by decide) [(2, vI ((k : Int) + 1)), (0, .ref (b 3)), (1, .ref (b 1))] rfl ?_
        refine jx_goto (tgt := 2) E dX6_copyAll_17 (by decide) ?_
        rw [show wsM G b (setc y 0 (updI (mixP (y 2) (y 0) k) (k : Int) ((y 2) (k : Int)))) = wsM G b (setc y 0 (mixP (y 2) (y 0) ((k + 1 : Nat) : Int))) from by simp only [wsM, setc_app]; simp [show rowI (updI (mixP (y 2) (y 0) k) (k : Int) ((y 2) (k : Int))) 0 61 = rowI (mixP (y 2) (y 0) ((k : Int) + 1)) 0 61 from rowI_ext (fun q a b => by simp only [mixP, updI_app]; split <;> split <;> first | rfl | omega | (simp_all; done))]]
        exact ih (k + 1) (by omega) (by omega)
  rw [show wsM G b y = wsM G b (setc y 0 (mixP (y 2) (y 0) ((0 : Nat) : Int))) from by rw [show wsM G b (setc y 0 (mixP (y 2) (y 0) ((0 : Nat) : Int))) = wsM G b (setc y 0 (y 0)) from by simp only [wsM, setc_app]; simp [show rowI (mixP (y 2) (y 0) 0) 0 61 = rowI (y 0) 0 61 from rowI_ext (fun k a b => by simp only [mixP]; rw [if_neg (by omega)])], setc_self]]
  exact LP2 62 0 (by omega) (by omega)
set_option maxHeartbeats 4000000 in
theorem c_X6_copyAll_m_kept (l : Launch) (G : GT) (b : Nat → Nat) (y : MS) : CtV l G yX6_copyAll cX6_copyAll 3 none 1 [.ref (b 1), .ref (b 2)] (wsM G b y) (wsM G b (setc y 1 (y 0))) := by
  refine CtV.of (by decide) (Nat.le_of_ble_eq_true rfl) ?_
  intro p e s m args below meth c A E hr
  refine jx_lv (lv' := [(0, .ref (b 1)), (1, .ref (b 2))]) [0, 1] rfl ?_
  refine jx_iconst E dX6_copyAll_0 ?_
  refine jx_istore_n E dX6_copyAll_1 (by decide) [(2, vI 0), (0, .ref (b 1)), (1, .ref (b 2))] rfl ?_
  have LP2 : ∀ (n2 : Nat) (k : Nat), ((k : Int) ≤ 61) → (61 - (k : Int) < n2) → JX p l e (rmL 1) s m args below meth c 3 G A 0 0 (QV below args s G A (wsM G b (setc y 1 (y 0)))) (wsM G b (setc y 1 (mixP (y 0) (y 1) k))) 2 [(2, vI (k : Int)), (0, .ref (b 1)), (1, .ref (b 2))] [] := by
    intro n2
    induction n2 with
    | zero => intro k q1 q2; exfalso; omega
    | succ n2 ih =>
      intro k q1 q2
      refine jx_iload_n E 0 dX6_copyAll_2 rfl ?_
      refine jx_bipush E dX6_copyAll_3 ?_
      refine jx_icmp_ge (tgt := 20) E dX6_copyAll_5 (by decide) (fun c1 => ?_) (fun c1 => ?_)
      · skip
        exact jx_vret E hr dX6_copyAll_20 (by simp only [wsM, setc_app]; simp [show rowI (mixP (y 0) (y 1) (k : Int)) 0 61 = rowI (y 0) 0 61 from rowI_ext (fun q a b => by simp only [mixP]; rw [if_pos (by omega)])])
      · skip
        refine jx_aload_n E 2 dX6_copyAll_8 rfl ?_
        refine jx_iload_n E 0 dX6_copyAll_9 rfl ?_
        refine jx_aload_n E 1 dX6_copyAll_10 rfl ?_
        refine jx_iload_n E 0 dX6_copyAll_11 rfl ?_
        refine jx_iald E (v := (y 0) (k : Int)) wm_m (row0_at (by omega) (by omega)) (by omega) (by omega) (by decide) dX6_copyAll_12 ?_
        refine jx_iast E wm_kept (wq_kept (by omega) (by omega)) (by omega) (by omega) (by decide) dX6_copyAll_13 ?_
        refine jx_eq (ws' := wsM G b (setc y 1 (updI (mixP (y 0) (y 1) k) (k : Int) ((y 0) (k : Int))))) (congrArg (wsM G b) (by first | rfl | (rw [setc_setc]; rfl) | (simp only [setc_setc, setc_at]; done) | (simp only [setc_setc, setc_at]; rfl) | (funext d; simp only [setc_app]; (repeat' split) <;> first | rfl | omega | simp_all))) ?_
        refine jx_iinc E 0 dX6_copyAll_14 rfl (by decide) [(2, vI ((k : Int) + 1)), (0, .ref (b 1)), (1, .ref (b 2))] rfl ?_
        refine jx_goto (tgt := 2) E dX6_copyAll_17 (by decide) ?_
        rw [show wsM G b (setc y 1 (updI (mixP (y 0) (y 1) k) (k : Int) ((y 0) (k : Int)))) = wsM G b (setc y 1 (mixP (y 0) (y 1) ((k + 1 : Nat) : Int))) from by simp only [wsM, setc_app]; simp [show rowI (updI (mixP (y 0) (y 1) k) (k : Int) ((y 0) (k : Int))) 0 61 = rowI (mixP (y 0) (y 1) ((k : Int) + 1)) 0 61 from rowI_ext (fun q a b => by simp only [mixP, updI_app]; split <;> split <;> first | rfl | omega | (simp_all; done))]]
        exact ih (k + 1) (by omega) (by omega)
  rw [show wsM G b y = wsM G b (setc y 1 (mixP (y 0) (y 1) ((0 : Nat) : Int))) from by rw [show wsM G b (setc y 1 (mixP (y 0) (y 1) ((0 : Nat) : Int))) = wsM G b (setc y 1 (y 1)) from by simp only [wsM, setc_app]; simp [show rowI (mixP (y 0) (y 1) 0) 0 61 = rowI (y 1) 0 61 from rowI_ext (fun k a b => by simp only [mixP]; rw [if_neg (by omega)])], setc_self]]
  exact LP2 62 0 (by omega) (by omega)
set_option maxHeartbeats 4000000 in
theorem c_X6_copyAll_kept_m (l : Launch) (G : GT) (b : Nat → Nat) (y : MS) : CtV l G yX6_copyAll cX6_copyAll 3 none 1 [.ref (b 2), .ref (b 1)] (wsM G b y) (wsM G b (setc y 0 (y 1))) := by
  refine CtV.of (by decide) (Nat.le_of_ble_eq_true rfl) ?_
  intro p e s m args below meth c A E hr
  refine jx_lv (lv' := [(0, .ref (b 2)), (1, .ref (b 1))]) [0, 1] rfl ?_
  refine jx_iconst E dX6_copyAll_0 ?_
  refine jx_istore_n E dX6_copyAll_1 (by decide) [(2, vI 0), (0, .ref (b 2)), (1, .ref (b 1))] rfl ?_
  have LP2 : ∀ (n2 : Nat) (k : Nat), ((k : Int) ≤ 61) → (61 - (k : Int) < n2) → JX p l e (rmL 1) s m args below meth c 3 G A 0 0 (QV below args s G A (wsM G b (setc y 0 (y 1)))) (wsM G b (setc y 0 (mixP (y 1) (y 0) k))) 2 [(2, vI (k : Int)), (0, .ref (b 2)), (1, .ref (b 1))] [] := by
    intro n2
    induction n2 with
    | zero => intro k q1 q2; exfalso; omega
    | succ n2 ih =>
      intro k q1 q2
      refine jx_iload_n E 0 dX6_copyAll_2 rfl ?_
      refine jx_bipush E dX6_copyAll_3 ?_
      refine jx_icmp_ge (tgt := 20) E dX6_copyAll_5 (by decide) (fun c1 => ?_) (fun c1 => ?_)
      · skip
        exact jx_vret E hr dX6_copyAll_20 (by simp only [wsM, setc_app]; simp [show rowI (mixP (y 1) (y 0) (k : Int)) 0 61 = rowI (y 1) 0 61 from rowI_ext (fun q a b => by simp only [mixP]; rw [if_pos (by omega)])])
      · skip
        refine jx_aload_n E 2 dX6_copyAll_8 rfl ?_
        refine jx_iload_n E 0 dX6_copyAll_9 rfl ?_
        refine jx_aload_n E 1 dX6_copyAll_10 rfl ?_
        refine jx_iload_n E 0 dX6_copyAll_11 rfl ?_
        refine jx_iald E (v := (y 1) (k : Int)) wm_kept (row0_at (by omega) (by omega)) (by omega) (by omega) (by decide) dX6_copyAll_12 ?_
        refine jx_iast E wm_m (wq_m (by omega) (by omega)) (by omega) (by omega) (by decide) dX6_copyAll_13 ?_
        refine jx_eq (ws' := wsM G b (setc y 0 (updI (mixP (y 1) (y 0) k) (k : Int) ((y 1) (k : Int))))) (congrArg (wsM G b) (by first | rfl | (rw [setc_setc]; rfl) | (simp only [setc_setc, setc_at]; done) | (simp only [setc_setc, setc_at]; rfl) | (funext d; simp only [setc_app]; (repeat' split) <;> first | rfl | omega | simp_all))) ?_
        refine jx_iinc E 0 dX6_copyAll_14 rfl (by decide) [(2, vI ((k : Int) + 1)), (0, .ref (b 2)), (1, .ref (b 1))] rfl ?_
        refine jx_goto (tgt := 2) E dX6_copyAll_17 (by decide) ?_
        rw [show wsM G b (setc y 0 (updI (mixP (y 1) (y 0) k) (k : Int) ((y 1) (k : Int)))) = wsM G b (setc y 0 (mixP (y 1) (y 0) ((k + 1 : Nat) : Int))) from by simp only [wsM, setc_app]; simp [show rowI (updI (mixP (y 1) (y 0) k) (k : Int) ((y 1) (k : Int))) 0 61 = rowI (mixP (y 1) (y 0) ((k : Int) + 1)) 0 61 from rowI_ext (fun q a b => by simp only [mixP, updI_app]; split <;> split <;> first | rfl | omega | (simp_all; done))]]
        exact ih (k + 1) (by omega) (by omega)
  rw [show wsM G b y = wsM G b (setc y 0 (mixP (y 1) (y 0) ((0 : Nat) : Int))) from by rw [show wsM G b (setc y 0 (mixP (y 1) (y 0) ((0 : Nat) : Int))) = wsM G b (setc y 0 (y 0)) from by simp only [wsM, setc_app]; simp [show rowI (mixP (y 1) (y 0) 0) 0 61 = rowI (y 0) 0 61 from rowI_ext (fun k a b => by simp only [mixP]; rw [if_neg (by omega)])], setc_self]]
  exact LP2 62 0 (by omega) (by omega)
set_option maxHeartbeats 4000000 in
theorem c_X6_becomes (l : Launch) (G : GT) (b : Nat → Nat) (y : MS) {q v : Int} (h1 : 0 ≤ q) (h2 : q < 61) : CtI l G yX6_becomes cX6_becomes 4 (some .int) 1 [.ref (b 0), vI q, vI v] (wsM G b y) ((y 0) q) (wsM G b (setc y 0 (updI (y 0) q v))) := by
  refine CtI.of (by decide) (Nat.le_of_ble_eq_true rfl) ?_
  intro p e s m args below meth c A E hr
  refine jx_lv (lv' := [(0, .ref (b 0)), (1, vI q), (2, vI v)]) [0, 1, 2] rfl ?_
  refine jx_aload_n E 0 dX6_becomes_0 rfl ?_
  refine jx_get E f_X6 0 (v := .ref (b 1)) wm_obj (by decide) wf_X6_9 rfl dX6_becomes_1 ?_
  refine jx_iload_n E 1 dX6_becomes_4 rfl ?_
  refine jx_iald E (v := (y 0) q) wm_m (row0_at (by omega) (by omega)) (by omega) (by omega) (by decide) dX6_becomes_5 ?_
  refine jx_istore_n E dX6_becomes_6 (by decide) [(3, vI ((y 0) q)), (0, .ref (b 0)), (1, vI q), (2, vI v)] rfl ?_
  refine jx_aload_n E 1 dX6_becomes_7 rfl ?_
  refine jx_get E f_X6 0 (v := .ref (b 1)) wm_obj (by decide) wf_X6_9 rfl dX6_becomes_8 ?_
  refine jx_iload_n E 2 dX6_becomes_11 rfl ?_
  refine jx_iload_n E 3 dX6_becomes_12 rfl ?_
  refine jx_iast E wm_m (wq_m (by omega) (by omega)) (by omega) (by omega) (by decide) dX6_becomes_13 ?_
  refine jx_iload_n E 0 dX6_becomes_14 rfl ?_
  exact jx_iret E hr dX6_becomes_15 (by first | rfl | omega) (by first | rfl | (congr 1; done))
set_option maxHeartbeats 4000000 in
theorem c_X6_isFountain (l : Launch) (G : GT) (b : Nat → Nat) (y : MS) {f : Int} (h1 : inR f) (h2 : 0 ≤ y 0 4 ∧ y 0 4 ≤ 8) : CtI l G yX6_isFountain cX6_isFountain 2 (some .boolean) 2 [.ref (b 0), vI f] (wsM G b y) (if 0 ≤ f ∧ f < (y 0) 4 then 1 else 0) (wsM G b y) := by
  unfold inR at h1
  refine CtI.of (by decide) (Nat.le_of_ble_eq_true rfl) ?_
  intro p e s m args below meth c A E hr
  refine jx_lv (lv' := [(0, .ref (b 0)), (1, vI f)]) [0, 1] rfl ?_
  refine jx_iload_n E 1 dX6_isFountain_0 rfl ?_
  refine jx_i2l E dX6_isFountain_1 ?_
  refine jx_iconst E dX6_isFountain_2 ?_
  refine jx_aload_n E 0 dX6_isFountain_3 rfl ?_
  refine jx_get E f_X6 0 (v := .ref (b 1)) wm_obj (by decide) wf_X6_9 rfl dX6_isFountain_4 ?_
  refine jx_iconst E dX6_isFountain_7 ?_
  refine jx_iald E (v := (y 0) 4) wm_m (row0_at (by omega) (by omega)) (by omega) (by omega) (by decide) dX6_isFountain_8 ?_
  refine jx_iconst E dX6_isFountain_9 ?_
  refine jx_isub E dX6_isFountain_10 ?_
  refine jx_callSi E [vL f, vI 0, vI (((y 0) 4) - 1)] [] (c_X6_in l G (wsM G b y) (v := f) (lo := 0) (hi := ((y 0) 4) - 1) (by unfold inL; omega) (by unfold inR; omega) (by unfold inR; omega)) mb_X6_in ms_X6_in wl_X6_41 dX6_isFountain_11 ?_
  exact jx_zret E hr dX6_isFountain_14 (by omega) (by first | rfl | (congr 1; done)) (by first | exact Or.inl rfl | exact Or.inr rfl | omega)
set_option maxHeartbeats 4000000 in
theorem c_X6_first (l : Launch) (G : GT) (b : Nat → Nat) (y : MS) {off most : Int} (h1 : VV (y 0)) (h2 : (off = 0 ∨ off = 1) ∧ (most = 0 ∨ most = 1)) : CtI l G yX6_first cX6_first 7 (some .int) 3 [.ref (b 0), vI off, vI most] (wsM G b y) (bestP (y 0) off most ((y 0) 4).toNat) (wsM G b y) := by
  have hF := h1.2.2.2.2.2.2.2
  have h4 := h1.2.2.2.2.1
  obtain ⟨hD, hC⟩ := VV_use h1
  refine CtI.of (by decide) (Nat.le_of_ble_eq_true rfl) ?_
  intro p e s m args below meth c A E hr
  refine jx_lv (lv' := [(0, .ref (b 0)), (1, vI off), (2, vI most)]) [0, 1, 2] rfl ?_
  refine jx_iconst E dX6_first_0 ?_
  refine jx_istore_n E dX6_first_1 (by decide) [(3, vI (-1)), (0, .ref (b 0)), (1, vI off), (2, vI most)] rfl ?_
  refine jx_iconst E dX6_first_2 ?_
  refine jx_istore E dX6_first_3 (by decide) [(4, vI 0), (3, vI (-1)), (0, .ref (b 0)), (1, vI off), (2, vI most)] rfl ?_
  have LP5 : ∀ (n2 : Nat) (k : Nat) (best : Int), ((k : Int) ≤ y 0 4) → (y 0 4 - (k : Int) < n2) → (best = bestP (y 0) off most k) → JX p l e (rmL 3) s m args below meth c 7 G A 0 0 (QI below args s G A (bestP (y 0) off most ((y 0) 4).toNat) (wsM G b y)) (wsM G b y) 5 [(4, vI (k : Int)), (3, vI best), (0, .ref (b 0)), (1, vI off), (2, vI most)] [] := by
    intro n2
    induction n2 with
    | zero => intro k best q1 q2 hb; exfalso; omega
    | succ n2 ih =>
      intro k best q1 q2 hb
      have hbi := best_in (y 0) off most k
      rw [← hb] at hbi
      have hg1 : (k : Int) < y 0 4 → -600 ≤ givesP (y 0) k ∧ givesP (y 0) k ≤ 600 := fun q => by obtain ⟨a1, a2, a3, a4, a5⟩ := hF k (by omega) q; simp only [givesP]; omega
      have hg2 : 0 ≤ best → -600 ≤ givesP (y 0) best ∧ givesP (y 0) best ≤ 600 := fun q => by obtain ⟨a1, a2, a3, a4, a5⟩ := hF best q (by omega); simp only [givesP]; omega
      have ho : (k : Int) < y 0 4 → 0 ≤ y 0 (21 + 5 * (k : Int) + 2) ∧ y 0 (21 + 5 * (k : Int) + 2) ≤ 1 := fun q => (hF k (by omega) q).2.2.1
      refine jx_iload E 0 dX6_first_5 rfl ?_
      refine jx_aload_n E 2 dX6_first_7 rfl ?_
      refine jx_get E f_X6 0 (v := .ref (b 1)) wm_obj (by decide) wf_X6_9 rfl dX6_first_8 ?_
      refine jx_iconst E dX6_first_11 ?_
      refine jx_iald E (v := (y 0) 4) wm_m (row0_at (by omega) (by omega)) (by omega) (by omega) (by decide) dX6_first_12 ?_
      refine jx_icmp_ge (tgt := 103) E dX6_first_13 (by decide) (fun c1 => ?_) (fun c1 => ?_)
      · skip
        refine jx_iload_n E 1 dX6_first_103 rfl ?_
        exact jx_iret E hr dX6_first_104 (by rw [hb, show k = (y 0 4).toNat by omega]) (by first | rfl | (congr 1; done))
      · skip
        refine jx_aload_n E 2 dX6_first_16 rfl ?_
        refine jx_iload E 0 dX6_first_17 rfl ?_
        refine jx_iconst E dX6_first_19 ?_
        refine jx_callVi E [vI (k : Int), vI 2] [] (c_X6_it l G b y (f := (k : Int)) (what := 2) (by omega) (by omega) (by omega) (by omega)) mb_X6_it mv_X6_it wl_X6_49 f_X6 wm_obj dX6_first_20 ?_
        refine jx_iload_n E 3 dX6_first_23 rfl ?_
        refine jx_icmp_ne (tgt := 31) E dX6_first_24 (by decide) (fun c2 => ?_) (fun c2 => ?_)
        · skip
          refine jx_iconst E dX6_first_31 ?_
          refine jx_istore E dX6_first_32 (by decide) [(5, vI 0), (4, vI (k : Int)), (3, vI best), (0, .ref (b 0)), (1, vI off), (2, vI most)] rfl ?_
          refine jx_iload_n E 2 dX6_first_34 rfl ?_
          refine jx_if_lt (tgt := 73) E dX6_first_35 (by decide) (fun c3 => ?_) (fun c3 => ?_)
          · skip
            refine jx_iconst E dX6_first_73 ?_
            refine jx_goto (tgt := 78) E dX6_first_74 (by decide) ?_
            refine jx_istore E dX6_first_78 (by decide) [(6, vI 1), (5, vI 0), (4, vI (k : Int)), (3, vI best), (0, .ref (b 0)), (1, vI off), (2, vI most)] rfl ?_
            refine jx_iload E 1 dX6_first_80 rfl ?_
            refine jx_if_eq (tgt := 95) E dX6_first_82 (by decide) (fun c4 => ?_) (fun c4 => ?_)
            · skip
              refine jx_iload_n E 3 dX6_first_95 rfl ?_
              refine jx_istore_n E dX6_first_96 (by decide) [(3, vI best), (6, vI 1), (5, vI 0), (4, vI (k : Int)), (0, .ref (b 0)), (1, vI off), (2, vI most)] rfl ?_
              refine jx_iinc E 3 dX6_first_97 rfl (by decide) [(4, vI ((k : Int) + 1)), (3, vI best), (6, vI 1), (5, vI 0), (0, .ref (b 0)), (1, vI off), (2, vI most)] rfl ?_
              refine jx_goto (tgt := 5) E dX6_first_100 (by decide) ?_
              refine jx_lv (lv' := [(4, vI ((k : Int) + 1)), (3, vI best), (0, .ref (b 0)), (1, vI off), (2, vI most)]) [0, 1, 4, 5, 6] rfl ?_
              exact ih (k + 1) _ (by omega) (by omega) (by simp only [bestP, ← hb]; omega)
            · skip
              exact absurd c4 (by decide)
          · skip
            refine jx_iload_n E 5 dX6_first_38 rfl ?_
            refine jx_if_eq (tgt := 59) E dX6_first_39 (by decide) (fun c5 => ?_) (fun c5 => ?_)
            · skip
              refine jx_aload_n E 3 dX6_first_59 rfl ?_
              refine jx_iload E 1 dX6_first_60 rfl ?_
              refine jx_callVi E [vI (k : Int)] [] (c_X6_givesWay l G b y (f := (k : Int)) (by omega) (by omega) (hF _ (by omega) (by omega))) mb_X6_givesWay mv_X6_givesWay wl_X6_65 f_X6 wm_obj dX6_first_62 ?_
              refine jx_aload_n E 3 dX6_first_65 rfl ?_
              refine jx_iload_n E 2 dX6_first_66 rfl ?_
              refine jx_callVi E [vI best] [vI (givesP (y 0) (k : Int))] (c_X6_givesWay l G b y (f := best) (by omega) (by omega) (hF _ (by omega) (by omega))) mb_X6_givesWay mv_X6_givesWay wl_X6_65 f_X6 wm_obj dX6_first_67 ?_
              refine jx_icmp_ge (tgt := 77) E dX6_first_70 (by decide) (fun c6 => ?_) (fun c6 => ?_)
              · skip
                refine jx_iconst E dX6_first_77 ?_
                refine jx_istore E dX6_first_78 (by decide) [(6, vI 0), (5, vI 0), (4, vI (k : Int)), (3, vI best), (0, .ref (b 0)), (1, vI off), (2, vI most)] rfl ?_
                refine jx_iload E 1 dX6_first_80 rfl ?_
                refine jx_if_eq (tgt := 95) E dX6_first_82 (by decide) (fun c7 => ?_) (fun c7 => ?_)
                · skip
                  refine jx_iload_n E 3 dX6_first_95 rfl ?_
                  refine jx_istore_n E dX6_first_96 (by decide) [(3, vI best), (6, vI 0), (5, vI 0), (4, vI (k : Int)), (0, .ref (b 0)), (1, vI off), (2, vI most)] rfl ?_
                  refine jx_iinc E 3 dX6_first_97 rfl (by decide) [(4, vI ((k : Int) + 1)), (3, vI best), (6, vI 0), (5, vI 0), (0, .ref (b 0)), (1, vI off), (2, vI most)] rfl ?_
                  refine jx_goto (tgt := 5) E dX6_first_100 (by decide) ?_
                  refine jx_lv (lv' := [(4, vI ((k : Int) + 1)), (3, vI best), (0, .ref (b 0)), (1, vI off), (2, vI most)]) [0, 1, 4, 5, 6] rfl ?_
                  exact ih (k + 1) _ (by omega) (by omega) (by simp only [bestP, ← hb]; omega)
                · skip
                  exact absurd c7 (by decide)
              · skip
                refine jx_iconst E dX6_first_73 ?_
                refine jx_goto (tgt := 78) E dX6_first_74 (by decide) ?_
                refine jx_istore E dX6_first_78 (by decide) [(6, vI 1), (5, vI 0), (4, vI (k : Int)), (3, vI best), (0, .ref (b 0)), (1, vI off), (2, vI most)] rfl ?_
                refine jx_iload E 1 dX6_first_80 rfl ?_
                refine jx_if_eq (tgt := 95) E dX6_first_82 (by decide) (fun c8 => ?_) (fun c8 => ?_)
                · skip
                  refine jx_iload_n E 3 dX6_first_95 rfl ?_
                  refine jx_istore_n E dX6_first_96 (by decide) [(3, vI best), (6, vI 1), (5, vI 0), (4, vI (k : Int)), (0, .ref (b 0)), (1, vI off), (2, vI most)] rfl ?_
                  refine jx_iinc E 3 dX6_first_97 rfl (by decide) [(4, vI ((k : Int) + 1)), (3, vI best), (6, vI 1), (5, vI 0), (0, .ref (b 0)), (1, vI off), (2, vI most)] rfl ?_
                  refine jx_goto (tgt := 5) E dX6_first_100 (by decide) ?_
                  refine jx_lv (lv' := [(4, vI ((k : Int) + 1)), (3, vI best), (0, .ref (b 0)), (1, vI off), (2, vI most)]) [0, 1, 4, 5, 6] rfl ?_
                  exact ih (k + 1) _ (by omega) (by omega) (by simp only [bestP, ← hb]; omega)
                · skip
                  exact absurd c8 (by decide)
            · skip
              refine jx_aload_n E 3 dX6_first_42 rfl ?_
              refine jx_iload E 1 dX6_first_43 rfl ?_
              refine jx_callVi E [vI (k : Int)] [] (c_X6_givesWay l G b y (f := (k : Int)) (by omega) (by omega) (hF _ (by omega) (by omega))) mb_X6_givesWay mv_X6_givesWay wl_X6_65 f_X6 wm_obj dX6_first_45 ?_
              refine jx_aload_n E 3 dX6_first_48 rfl ?_
              refine jx_iload_n E 2 dX6_first_49 rfl ?_
              refine jx_callVi E [vI best] [vI (givesP (y 0) (k : Int))] (c_X6_givesWay l G b y (f := best) (by omega) (by omega) (hF _ (by omega) (by omega))) mb_X6_givesWay mv_X6_givesWay wl_X6_65 f_X6 wm_obj dX6_first_50 ?_
              refine jx_icmp_le (tgt := 77) E dX6_first_53 (by decide) (fun c9 => ?_) (fun c9 => ?_)
              · skip
                refine jx_iconst E dX6_first_77 ?_
                refine jx_istore E dX6_first_78 (by decide) [(6, vI 0), (5, vI 0), (4, vI (k : Int)), (3, vI best), (0, .ref (b 0)), (1, vI off), (2, vI most)] rfl ?_
                refine jx_iload E 1 dX6_first_80 rfl ?_
                refine jx_if_eq (tgt := 95) E dX6_first_82 (by decide) (fun c10 => ?_) (fun c10 => ?_)
                · skip
                  refine jx_iload_n E 3 dX6_first_95 rfl ?_
                  refine jx_istore_n E dX6_first_96 (by decide) [(3, vI best), (6, vI 0), (5, vI 0), (4, vI (k : Int)), (0, .ref (b 0)), (1, vI off), (2, vI most)] rfl ?_
                  refine jx_iinc E 3 dX6_first_97 rfl (by decide) [(4, vI ((k : Int) + 1)), (3, vI best), (6, vI 0), (5, vI 0), (0, .ref (b 0)), (1, vI off), (2, vI most)] rfl ?_
                  refine jx_goto (tgt := 5) E dX6_first_100 (by decide) ?_
                  refine jx_lv (lv' := [(4, vI ((k : Int) + 1)), (3, vI best), (0, .ref (b 0)), (1, vI off), (2, vI most)]) [0, 1, 4, 5, 6] rfl ?_
                  exact ih (k + 1) _ (by omega) (by omega) (by simp only [bestP, ← hb]; omega)
                · skip
                  exact absurd c10 (by decide)
              · skip
                refine jx_goto (tgt := 73) E dX6_first_56 (by decide) ?_
                refine jx_iconst E dX6_first_73 ?_
                refine jx_goto (tgt := 78) E dX6_first_74 (by decide) ?_
                refine jx_istore E dX6_first_78 (by decide) [(6, vI 1), (5, vI 0), (4, vI (k : Int)), (3, vI best), (0, .ref (b 0)), (1, vI off), (2, vI most)] rfl ?_
                refine jx_iload E 1 dX6_first_80 rfl ?_
                refine jx_if_eq (tgt := 95) E dX6_first_82 (by decide) (fun c11 => ?_) (fun c11 => ?_)
                · skip
                  refine jx_iload_n E 3 dX6_first_95 rfl ?_
                  refine jx_istore_n E dX6_first_96 (by decide) [(3, vI best), (6, vI 1), (5, vI 0), (4, vI (k : Int)), (0, .ref (b 0)), (1, vI off), (2, vI most)] rfl ?_
                  refine jx_iinc E 3 dX6_first_97 rfl (by decide) [(4, vI ((k : Int) + 1)), (3, vI best), (6, vI 1), (5, vI 0), (0, .ref (b 0)), (1, vI off), (2, vI most)] rfl ?_
                  refine jx_goto (tgt := 5) E dX6_first_100 (by decide) ?_
                  refine jx_lv (lv' := [(4, vI ((k : Int) + 1)), (3, vI best), (0, .ref (b 0)), (1, vI off), (2, vI most)]) [0, 1, 4, 5, 6] rfl ?_
                  exact ih (k + 1) _ (by omega) (by omega) (by simp only [bestP, ← hb]; omega)
                · skip
                  exact absurd c11 (by decide)
        · skip
          refine jx_iconst E dX6_first_27 ?_
          refine jx_goto (tgt := 32) E dX6_first_28 (by decide) ?_
          refine jx_istore E dX6_first_32 (by decide) [(5, vI 1), (4, vI (k : Int)), (3, vI best), (0, .ref (b 0)), (1, vI off), (2, vI most)] rfl ?_
          refine jx_iload_n E 2 dX6_first_34 rfl ?_
          refine jx_if_lt (tgt := 73) E dX6_first_35 (by decide) (fun c12 => ?_) (fun c12 => ?_)
          · skip
            refine jx_iconst E dX6_first_73 ?_
            refine jx_goto (tgt := 78) E dX6_first_74 (by decide) ?_
            refine jx_istore E dX6_first_78 (by decide) [(6, vI 1), (5, vI 1), (4, vI (k : Int)), (3, vI best), (0, .ref (b 0)), (1, vI off), (2, vI most)] rfl ?_
            refine jx_iload E 1 dX6_first_80 rfl ?_
            refine jx_if_eq (tgt := 95) E dX6_first_82 (by decide) (fun c13 => ?_) (fun c13 => ?_)
            · skip
              exact absurd c13 (by decide)
            · skip
              refine jx_iload E 0 dX6_first_85 rfl ?_
              refine jx_if_eq (tgt := 95) E dX6_first_87 (by decide) (fun c14 => ?_) (fun c14 => ?_)
              · skip
                exact absurd c14 (by decide)
              · skip
                refine jx_iload E 2 dX6_first_90 rfl ?_
                refine jx_goto (tgt := 96) E dX6_first_92 (by decide) ?_
                refine jx_istore_n E dX6_first_96 (by decide) [(3, vI (k : Int)), (6, vI 1), (5, vI 1), (4, vI (k : Int)), (0, .ref (b 0)), (1, vI off), (2, vI most)] rfl ?_
                refine jx_iinc E 3 dX6_first_97 rfl (by decide) [(4, vI ((k : Int) + 1)), (3, vI (k : Int)), (6, vI 1), (5, vI 1), (0, .ref (b 0)), (1, vI off), (2, vI most)] rfl ?_
                refine jx_goto (tgt := 5) E dX6_first_100 (by decide) ?_
                refine jx_lv (lv' := [(4, vI ((k : Int) + 1)), (3, vI (k : Int)), (0, .ref (b 0)), (1, vI off), (2, vI most)]) [0, 1, 4, 5, 6] rfl ?_
                exact ih (k + 1) _ (by omega) (by omega) (by simp only [bestP, ← hb]; omega)
          · skip
            refine jx_iload_n E 5 dX6_first_38 rfl ?_
            refine jx_if_eq (tgt := 59) E dX6_first_39 (by decide) (fun c15 => ?_) (fun c15 => ?_)
            · skip
              refine jx_aload_n E 3 dX6_first_59 rfl ?_
              refine jx_iload E 1 dX6_first_60 rfl ?_
              refine jx_callVi E [vI (k : Int)] [] (c_X6_givesWay l G b y (f := (k : Int)) (by omega) (by omega) (hF _ (by omega) (by omega))) mb_X6_givesWay mv_X6_givesWay wl_X6_65 f_X6 wm_obj dX6_first_62 ?_
              refine jx_aload_n E 3 dX6_first_65 rfl ?_
              refine jx_iload_n E 2 dX6_first_66 rfl ?_
              refine jx_callVi E [vI best] [vI (givesP (y 0) (k : Int))] (c_X6_givesWay l G b y (f := best) (by omega) (by omega) (hF _ (by omega) (by omega))) mb_X6_givesWay mv_X6_givesWay wl_X6_65 f_X6 wm_obj dX6_first_67 ?_
              refine jx_icmp_ge (tgt := 77) E dX6_first_70 (by decide) (fun c16 => ?_) (fun c16 => ?_)
              · skip
                refine jx_iconst E dX6_first_77 ?_
                refine jx_istore E dX6_first_78 (by decide) [(6, vI 0), (5, vI 1), (4, vI (k : Int)), (3, vI best), (0, .ref (b 0)), (1, vI off), (2, vI most)] rfl ?_
                refine jx_iload E 1 dX6_first_80 rfl ?_
                refine jx_if_eq (tgt := 95) E dX6_first_82 (by decide) (fun c17 => ?_) (fun c17 => ?_)
                · skip
                  exact absurd c17 (by decide)
                · skip
                  refine jx_iload E 0 dX6_first_85 rfl ?_
                  refine jx_if_eq (tgt := 95) E dX6_first_87 (by decide) (fun c18 => ?_) (fun c18 => ?_)
                  · skip
                    refine jx_iload_n E 3 dX6_first_95 rfl ?_
                    refine jx_istore_n E dX6_first_96 (by decide) [(3, vI best), (6, vI 0), (5, vI 1), (4, vI (k : Int)), (0, .ref (b 0)), (1, vI off), (2, vI most)] rfl ?_
                    refine jx_iinc E 3 dX6_first_97 rfl (by decide) [(4, vI ((k : Int) + 1)), (3, vI best), (6, vI 0), (5, vI 1), (0, .ref (b 0)), (1, vI off), (2, vI most)] rfl ?_
                    refine jx_goto (tgt := 5) E dX6_first_100 (by decide) ?_
                    refine jx_lv (lv' := [(4, vI ((k : Int) + 1)), (3, vI best), (0, .ref (b 0)), (1, vI off), (2, vI most)]) [0, 1, 4, 5, 6] rfl ?_
                    exact ih (k + 1) _ (by omega) (by omega) (by simp only [bestP, ← hb]; omega)
                  · skip
                    exact absurd c18 (by decide)
              · skip
                refine jx_iconst E dX6_first_73 ?_
                refine jx_goto (tgt := 78) E dX6_first_74 (by decide) ?_
                refine jx_istore E dX6_first_78 (by decide) [(6, vI 1), (5, vI 1), (4, vI (k : Int)), (3, vI best), (0, .ref (b 0)), (1, vI off), (2, vI most)] rfl ?_
                refine jx_iload E 1 dX6_first_80 rfl ?_
                refine jx_if_eq (tgt := 95) E dX6_first_82 (by decide) (fun c19 => ?_) (fun c19 => ?_)
                · skip
                  exact absurd c19 (by decide)
                · skip
                  refine jx_iload E 0 dX6_first_85 rfl ?_
                  refine jx_if_eq (tgt := 95) E dX6_first_87 (by decide) (fun c20 => ?_) (fun c20 => ?_)
                  · skip
                    exact absurd c20 (by decide)
                  · skip
                    refine jx_iload E 2 dX6_first_90 rfl ?_
                    refine jx_goto (tgt := 96) E dX6_first_92 (by decide) ?_
                    refine jx_istore_n E dX6_first_96 (by decide) [(3, vI (k : Int)), (6, vI 1), (5, vI 1), (4, vI (k : Int)), (0, .ref (b 0)), (1, vI off), (2, vI most)] rfl ?_
                    refine jx_iinc E 3 dX6_first_97 rfl (by decide) [(4, vI ((k : Int) + 1)), (3, vI (k : Int)), (6, vI 1), (5, vI 1), (0, .ref (b 0)), (1, vI off), (2, vI most)] rfl ?_
                    refine jx_goto (tgt := 5) E dX6_first_100 (by decide) ?_
                    refine jx_lv (lv' := [(4, vI ((k : Int) + 1)), (3, vI (k : Int)), (0, .ref (b 0)), (1, vI off), (2, vI most)]) [0, 1, 4, 5, 6] rfl ?_
                    exact ih (k + 1) _ (by omega) (by omega) (by simp only [bestP, ← hb]; omega)
            · skip
              refine jx_aload_n E 3 dX6_first_42 rfl ?_
              refine jx_iload E 1 dX6_first_43 rfl ?_
              refine jx_callVi E [vI (k : Int)] [] (c_X6_givesWay l G b y (f := (k : Int)) (by omega) (by omega) (hF _ (by omega) (by omega))) mb_X6_givesWay mv_X6_givesWay wl_X6_65 f_X6 wm_obj dX6_first_45 ?_
              refine jx_aload_n E 3 dX6_first_48 rfl ?_
              refine jx_iload_n E 2 dX6_first_49 rfl ?_
              refine jx_callVi E [vI best] [vI (givesP (y 0) (k : Int))] (c_X6_givesWay l G b y (f := best) (by omega) (by omega) (hF _ (by omega) (by omega))) mb_X6_givesWay mv_X6_givesWay wl_X6_65 f_X6 wm_obj dX6_first_50 ?_
              refine jx_icmp_le (tgt := 77) E dX6_first_53 (by decide) (fun c21 => ?_) (fun c21 => ?_)
              · skip
                refine jx_iconst E dX6_first_77 ?_
                refine jx_istore E dX6_first_78 (by decide) [(6, vI 0), (5, vI 1), (4, vI (k : Int)), (3, vI best), (0, .ref (b 0)), (1, vI off), (2, vI most)] rfl ?_
                refine jx_iload E 1 dX6_first_80 rfl ?_
                refine jx_if_eq (tgt := 95) E dX6_first_82 (by decide) (fun c22 => ?_) (fun c22 => ?_)
                · skip
                  exact absurd c22 (by decide)
                · skip
                  refine jx_iload E 0 dX6_first_85 rfl ?_
                  refine jx_if_eq (tgt := 95) E dX6_first_87 (by decide) (fun c23 => ?_) (fun c23 => ?_)
                  · skip
                    refine jx_iload_n E 3 dX6_first_95 rfl ?_
                    refine jx_istore_n E dX6_first_96 (by decide) [(3, vI best), (6, vI 0), (5, vI 1), (4, vI (k : Int)), (0, .ref (b 0)), (1, vI off), (2, vI most)] rfl ?_
                    refine jx_iinc E 3 dX6_first_97 rfl (by decide) [(4, vI ((k : Int) + 1)), (3, vI best), (6, vI 0), (5, vI 1), (0, .ref (b 0)), (1, vI off), (2, vI most)] rfl ?_
                    refine jx_goto (tgt := 5) E dX6_first_100 (by decide) ?_
                    refine jx_lv (lv' := [(4, vI ((k : Int) + 1)), (3, vI best), (0, .ref (b 0)), (1, vI off), (2, vI most)]) [0, 1, 4, 5, 6] rfl ?_
                    exact ih (k + 1) _ (by omega) (by omega) (by simp only [bestP, ← hb]; omega)
                  · skip
                    exact absurd c23 (by decide)
              · skip
                refine jx_goto (tgt := 73) E dX6_first_56 (by decide) ?_
                refine jx_iconst E dX6_first_73 ?_
                refine jx_goto (tgt := 78) E dX6_first_74 (by decide) ?_
                refine jx_istore E dX6_first_78 (by decide) [(6, vI 1), (5, vI 1), (4, vI (k : Int)), (3, vI best), (0, .ref (b 0)), (1, vI off), (2, vI most)] rfl ?_
                refine jx_iload E 1 dX6_first_80 rfl ?_
                refine jx_if_eq (tgt := 95) E dX6_first_82 (by decide) (fun c24 => ?_) (fun c24 => ?_)
                · skip
                  exact absurd c24 (by decide)
                · skip
                  refine jx_iload E 0 dX6_first_85 rfl ?_
                  refine jx_if_eq (tgt := 95) E dX6_first_87 (by decide) (fun c25 => ?_) (fun c25 => ?_)
                  · skip
                    exact absurd c25 (by decide)
                  · skip
                    refine jx_iload E 2 dX6_first_90 rfl ?_
                    refine jx_goto (tgt := 96) E dX6_first_92 (by decide) ?_
                    refine jx_istore_n E dX6_first_96 (by decide) [(3, vI (k : Int)), (6, vI 1), (5, vI 1), (4, vI (k : Int)), (0, .ref (b 0)), (1, vI off), (2, vI most)] rfl ?_
                    refine jx_iinc E 3 dX6_first_97 rfl (by decide) [(4, vI ((k : Int) + 1)), (3, vI (k : Int)), (6, vI 1), (5, vI 1), (0, .ref (b 0)), (1, vI off), (2, vI most)] rfl ?_
                    refine jx_goto (tgt := 5) E dX6_first_100 (by decide) ?_
                    refine jx_lv (lv' := [(4, vI ((k : Int) + 1)), (3, vI (k : Int)), (0, .ref (b 0)), (1, vI off), (2, vI most)]) [0, 1, 4, 5, 6] rfl ?_
                    exact ih (k + 1) _ (by omega) (by omega) (by simp only [bestP, ← hb]; omega)
  exact LP5 9 0 _ (by omega) (by omega) rfl
set_option maxHeartbeats 4000000 in
theorem c_X6_noise (l : Launch) (G : GT) (b : Nat → Nat) (y : MS) (h1 : VV (y 0)) : CtI l G yX6_noise cX6_noise 3 (some .int) 4 [.ref (b 0)] (wsM G b y) (noiseP (y 0)) (wsM G b y) := by
  have hF := h1.2.2.2.2.2.2.2
  have h4 := h1.2.2.2.2.1
  obtain ⟨hD, hC⟩ := VV_use h1
  refine CtI.of (by decide) (Nat.le_of_ble_eq_true rfl) ?_
  intro p e s m args below meth c A E hr
  refine jx_lv (lv' := [(0, .ref (b 0))]) [0] rfl ?_
  refine jx_iconst E dX6_noise_0 ?_
  refine jx_istore_n E dX6_noise_1 (by decide) [(1, vI 0), (0, .ref (b 0))] rfl ?_
  refine jx_iconst E dX6_noise_2 ?_
  refine jx_istore_n E dX6_noise_3 (by decide) [(2, vI 0), (1, vI 0), (0, .ref (b 0))] rfl ?_
  have LP4 : ∀ (n2 : Nat) (k : Nat), ((k : Int) ≤ y 0 4) → (y 0 4 - (k : Int) < n2) → JX p l e (rmL 4) s m args below meth c 3 G A 0 0 (QI below args s G A (noiseP (y 0)) (wsM G b y)) (wsM G b y) 4 [(2, vI (k : Int)), (1, vI (sumP (heardP (y 0)) k)), (0, .ref (b 0))] [] := by
    intro n2
    induction n2 with
    | zero => intro k q1 q2; exfalso; omega
    | succ n2 ih =>
      intro k q1 q2
      refine jx_iload_n E 0 dX6_noise_4 rfl ?_
      refine jx_aload_n E 2 dX6_noise_5 rfl ?_
      refine jx_get E f_X6 0 (v := .ref (b 1)) wm_obj (by decide) wf_X6_9 rfl dX6_noise_6 ?_
      refine jx_iconst E dX6_noise_9 ?_
      refine jx_iald E (v := (y 0) 4) wm_m (row0_at (by omega) (by omega)) (by omega) (by omega) (by decide) dX6_noise_10 ?_
      refine jx_icmp_ge (tgt := 28) E dX6_noise_11 (by decide) (fun c1 => ?_) (fun c1 => ?_)
      · skip
        refine jx_iload_n E 1 dX6_noise_28 rfl ?_
        exact jx_iret E hr dX6_noise_29 (by rw [show k = (y 0 4).toNat by omega]; rfl) (by first | rfl | (congr 1; done))
      · skip
        refine jx_iload_n E 1 dX6_noise_14 rfl ?_
        refine jx_aload_n E 2 dX6_noise_15 rfl ?_
        refine jx_iload_n E 0 dX6_noise_16 rfl ?_
        refine jx_callVi E [vI (k : Int)] [vI (sumP (heardP (y 0)) k)] (c_X6_heard l G b y (f := (k : Int)) (by omega) (by omega) (hF _ (by omega) (by omega))) mb_X6_heard mv_X6_heard wl_X6_71 f_X6 wm_obj dX6_noise_17 ?_
        refine jx_iadd E dX6_noise_20 ?_
        refine jx_istore_n E dX6_noise_21 (by decide) [(1, vI ((sumP (heardP (y 0)) k) + (heardP (y 0) (k : Int)))), (2, vI (k : Int)), (0, .ref (b 0))] rfl ?_
        refine jx_iinc E 1 dX6_noise_22 rfl (by decide) [(2, vI ((k : Int) + 1)), (1, vI ((sumP (heardP (y 0)) k) + (heardP (y 0) (k : Int)))), (0, .ref (b 0))] rfl ?_
        refine jx_goto (tgt := 4) E dX6_noise_25 (by decide) ?_
        exact ih (k + 1) (by omega) (by omega)
  exact LP4 9 0 (by omega) (by omega)
set_option maxHeartbeats 4000000 in
theorem c_X6_allUses (l : Launch) (G : GT) (b : Nat → Nat) (y : MS) (h1 : VV (y 0)) : CtI l G yX6_allUses cX6_allUses 3 (some .int) 4 [.ref (b 0)] (wsM G b y) (allUseP (y 0)) (wsM G b y) := by
  have hF := h1.2.2.2.2.2.2.2
  have h4 := h1.2.2.2.2.1
  obtain ⟨hD, hC⟩ := VV_use h1
  refine CtI.of (by decide) (Nat.le_of_ble_eq_true rfl) ?_
  intro p e s m args below meth c A E hr
  refine jx_lv (lv' := [(0, .ref (b 0))]) [0] rfl ?_
  refine jx_iconst E dX6_allUses_0 ?_
  refine jx_istore_n E dX6_allUses_1 (by decide) [(1, vI 0), (0, .ref (b 0))] rfl ?_
  refine jx_iconst E dX6_allUses_2 ?_
  refine jx_istore_n E dX6_allUses_3 (by decide) [(2, vI 0), (1, vI 0), (0, .ref (b 0))] rfl ?_
  have LP4 : ∀ (n2 : Nat) (k : Nat), ((k : Int) ≤ y 0 4) → (y 0 4 - (k : Int) < n2) → JX p l e (rmL 4) s m args below meth c 3 G A 0 0 (QI below args s G A (allUseP (y 0)) (wsM G b y)) (wsM G b y) 4 [(2, vI (k : Int)), (1, vI (sumP (fun i => usesP (y 0) i (coldP (y 0))) k)), (0, .ref (b 0))] [] := by
    intro n2
    induction n2 with
    | zero => intro k q1 q2; exfalso; omega
    | succ n2 ih =>
      intro k q1 q2
      refine jx_iload_n E 0 dX6_allUses_4 rfl ?_
      refine jx_aload_n E 2 dX6_allUses_5 rfl ?_
      refine jx_get E f_X6 0 (v := .ref (b 1)) wm_obj (by decide) wf_X6_9 rfl dX6_allUses_6 ?_
      refine jx_iconst E dX6_allUses_9 ?_
      refine jx_iald E (v := (y 0) 4) wm_m (row0_at (by omega) (by omega)) (by omega) (by omega) (by decide) dX6_allUses_10 ?_
      refine jx_icmp_ge (tgt := 28) E dX6_allUses_11 (by decide) (fun c1 => ?_) (fun c1 => ?_)
      · skip
        refine jx_iload_n E 1 dX6_allUses_28 rfl ?_
        exact jx_iret E hr dX6_allUses_29 (by rw [show k = (y 0 4).toNat by omega]; rfl) (by first | rfl | (congr 1; done))
      · skip
        refine jx_iload_n E 1 dX6_allUses_14 rfl ?_
        refine jx_aload_n E 2 dX6_allUses_15 rfl ?_
        refine jx_iload_n E 0 dX6_allUses_16 rfl ?_
        refine jx_callVi E [vI (k : Int)] [vI (sumP (fun i => usesP (y 0) i (coldP (y 0))) k)] (c_X6_uses l G b y (f := (k : Int)) (by omega) (by omega) (hF _ (by omega) (by omega)) hD hC) mb_X6_uses mv_X6_uses wl_X6_74 f_X6 wm_obj dX6_allUses_17 ?_
        refine jx_iadd E dX6_allUses_20 ?_
        refine jx_istore_n E dX6_allUses_21 (by decide) [(1, vI ((sumP (fun i => usesP (y 0) i (coldP (y 0))) k) + (usesP (y 0) (k : Int) (coldP (y 0))))), (2, vI (k : Int)), (0, .ref (b 0))] rfl ?_
        refine jx_iinc E 1 dX6_allUses_22 rfl (by decide) [(2, vI ((k : Int) + 1)), (1, vI ((sumP (fun i => usesP (y 0) i (coldP (y 0))) k) + (usesP (y 0) (k : Int) (coldP (y 0))))), (0, .ref (b 0))] rfl ?_
        refine jx_goto (tgt := 4) E dX6_allUses_25 (by decide) ?_
        exact ih (k + 1) (by omega) (by omega)
  exact LP4 9 0 (by omega) (by omega)
set_option maxHeartbeats 4000000 in
theorem c_X6_allStooped (l : Launch) (G : GT) (b : Nat → Nat) (y : MS) (h1 : VV (y 0)) : CtI l G yX6_allStooped cX6_allStooped 3 (some .int) 2 [.ref (b 0)] (wsM G b y) (stoopedP (y 0)) (wsM G b y) := by
  have hF := h1.2.2.2.2.2.2.2
  have h4 := h1.2.2.2.2.1
  obtain ⟨hD, hC⟩ := VV_use h1
  refine CtI.of (by decide) (Nat.le_of_ble_eq_true rfl) ?_
  intro p e s m args below meth c A E hr
  refine jx_lv (lv' := [(0, .ref (b 0))]) [0] rfl ?_
  refine jx_iconst E dX6_allStooped_0 ?_
  refine jx_istore_n E dX6_allStooped_1 (by decide) [(1, vI 0), (0, .ref (b 0))] rfl ?_
  refine jx_iconst E dX6_allStooped_2 ?_
  refine jx_istore_n E dX6_allStooped_3 (by decide) [(2, vI 0), (1, vI 0), (0, .ref (b 0))] rfl ?_
  have LP4 : ∀ (n2 : Nat) (k : Nat), ((k : Int) ≤ y 0 4) → (y 0 4 - (k : Int) < n2) → JX p l e (rmL 2) s m args below meth c 3 G A 0 0 (QI below args s G A (stoopedP (y 0)) (wsM G b y)) (wsM G b y) 4 [(2, vI (k : Int)), (1, vI (sumP (fun i => y 0 (21 + 5 * i + 4)) k)), (0, .ref (b 0))] [] := by
    intro n2
    induction n2 with
    | zero => intro k q1 q2; exfalso; omega
    | succ n2 ih =>
      intro k q1 q2
      refine jx_iload_n E 0 dX6_allStooped_4 rfl ?_
      refine jx_aload_n E 2 dX6_allStooped_5 rfl ?_
      refine jx_get E f_X6 0 (v := .ref (b 1)) wm_obj (by decide) wf_X6_9 rfl dX6_allStooped_6 ?_
      refine jx_iconst E dX6_allStooped_9 ?_
      refine jx_iald E (v := (y 0) 4) wm_m (row0_at (by omega) (by omega)) (by omega) (by omega) (by decide) dX6_allStooped_10 ?_
      refine jx_icmp_ge (tgt := 29) E dX6_allStooped_11 (by decide) (fun c1 => ?_) (fun c1 => ?_)
      · skip
        refine jx_iload_n E 1 dX6_allStooped_29 rfl ?_
        exact jx_iret E hr dX6_allStooped_30 (by rw [show k = (y 0 4).toNat by omega]; rfl) (by first | rfl | (congr 1; done))
      · skip
        refine jx_iload_n E 1 dX6_allStooped_14 rfl ?_
        refine jx_aload_n E 2 dX6_allStooped_15 rfl ?_
        refine jx_iload_n E 0 dX6_allStooped_16 rfl ?_
        refine jx_iconst E dX6_allStooped_17 ?_
        refine jx_callVi E [vI (k : Int), vI 4] [vI (sumP (fun i => y 0 (21 + 5 * i + 4)) k)] (c_X6_it l G b y (f := (k : Int)) (what := 4) (by omega) (by omega) (by omega) (by omega)) mb_X6_it mv_X6_it wl_X6_49 f_X6 wm_obj dX6_allStooped_18 ?_
        refine jx_iadd E dX6_allStooped_21 ?_
        refine jx_istore_n E dX6_allStooped_22 (by decide) [(1, vI ((sumP (fun i => y 0 (21 + 5 * i + 4)) k) + ((y 0) (21 + 5 * (k : Int) + 4)))), (2, vI (k : Int)), (0, .ref (b 0))] rfl ?_
        refine jx_iinc E 1 dX6_allStooped_23 rfl (by decide) [(2, vI ((k : Int) + 1)), (1, vI ((sumP (fun i => y 0 (21 + 5 * i + 4)) k) + ((y 0) (21 + 5 * (k : Int) + 4)))), (0, .ref (b 0))] rfl ?_
        refine jx_goto (tgt := 4) E dX6_allStooped_26 (by decide) ?_
        exact ih (k + 1) (by omega) (by omega)
  exact LP4 9 0 (by omega) (by omega)
set_option maxHeartbeats 4000000 in
theorem c_X6_offOnes (l : Launch) (G : GT) (b : Nat → Nat) (y : MS) (h1 : VV (y 0)) : CtI l G yX6_offOnes cX6_offOnes 3 (some .int) 2 [.ref (b 0)] (wsM G b y) (offsN (y 0) ((y 0) 4).toNat) (wsM G b y) := by
  have hF := h1.2.2.2.2.2.2.2
  have h4 := h1.2.2.2.2.1
  obtain ⟨hD, hC⟩ := VV_use h1
  refine CtI.of (by decide) (Nat.le_of_ble_eq_true rfl) ?_
  intro p e s m args below meth c A E hr
  refine jx_lv (lv' := [(0, .ref (b 0))]) [0] rfl ?_
  refine jx_iconst E dX6_offOnes_0 ?_
  refine jx_istore_n E dX6_offOnes_1 (by decide) [(1, vI 0), (0, .ref (b 0))] rfl ?_
  refine jx_iconst E dX6_offOnes_2 ?_
  refine jx_istore_n E dX6_offOnes_3 (by decide) [(2, vI 0), (1, vI 0), (0, .ref (b 0))] rfl ?_
  have LP4 : ∀ (n2 : Nat) (k : Nat), ((k : Int) ≤ y 0 4) → (y 0 4 - (k : Int) < n2) → JX p l e (rmL 2) s m args below meth c 3 G A 0 0 (QI below args s G A (offsN (y 0) ((y 0) 4).toNat) (wsM G b y)) (wsM G b y) 4 [(2, vI (k : Int)), (1, vI (offsN (y 0) k)), (0, .ref (b 0))] [] := by
    intro n2
    induction n2 with
    | zero => intro k q1 q2; exfalso; omega
    | succ n2 ih =>
      intro k q1 q2
      have hs := offsN_in (t := y 0) k (fun i a b => (hF i a (by omega)).2.2.1)
      refine jx_iload_n E 0 dX6_offOnes_4 rfl ?_
      refine jx_aload_n E 2 dX6_offOnes_5 rfl ?_
      refine jx_get E f_X6 0 (v := .ref (b 1)) wm_obj (by decide) wf_X6_9 rfl dX6_offOnes_6 ?_
      refine jx_iconst E dX6_offOnes_9 ?_
      refine jx_iald E (v := (y 0) 4) wm_m (row0_at (by omega) (by omega)) (by omega) (by omega) (by decide) dX6_offOnes_10 ?_
      refine jx_icmp_ge (tgt := 31) E dX6_offOnes_11 (by decide) (fun c1 => ?_) (fun c1 => ?_)
      · skip
        refine jx_iload_n E 1 dX6_offOnes_31 rfl ?_
        exact jx_iret E hr dX6_offOnes_32 (by rw [show k = (y 0 4).toNat by omega]) (by first | rfl | (congr 1; done))
      · skip
        refine jx_iload_n E 1 dX6_offOnes_14 rfl ?_
        refine jx_aload_n E 2 dX6_offOnes_15 rfl ?_
        refine jx_iload_n E 0 dX6_offOnes_16 rfl ?_
        refine jx_iconst E dX6_offOnes_17 ?_
        refine jx_callVi E [vI (k : Int), vI 2] [vI (offsN (y 0) k)] (c_X6_it l G b y (f := (k : Int)) (what := 2) (by omega) (by omega) (by omega) (by omega)) mb_X6_it mv_X6_it wl_X6_49 f_X6 wm_obj dX6_offOnes_18 ?_
        refine jx_iload_n E 0 dX6_offOnes_21 rfl ?_
        refine jx_ishl E (z := y 0 (21 + 5 * (k : Int) + 2) * 2 ^ k) dX6_offOnes_22 (sh_of (by omega) (hF _ (by omega) (by omega)).2.2.1) ?_
        refine jx_ior E (z := offsN (y 0) k + y 0 (21 + 5 * (k : Int) + 2) * 2 ^ k) dX6_offOnes_23 (or_of (by omega) hs (hF _ (by omega) (by omega)).2.2.1) ?_
        refine jx_istore_n E dX6_offOnes_24 (by decide) [(1, vI (offsN (y 0) k + y 0 (21 + 5 * (k : Int) + 2) * 2 ^ k)), (2, vI (k : Int)), (0, .ref (b 0))] rfl ?_
        refine jx_iinc E 1 dX6_offOnes_25 rfl (by decide) [(2, vI ((k : Int) + 1)), (1, vI (offsN (y 0) k + y 0 (21 + 5 * (k : Int) + 2) * 2 ^ k)), (0, .ref (b 0))] rfl ?_
        refine jx_goto (tgt := 4) E dX6_offOnes_28 (by decide) ?_
        exact ih (k + 1) (by omega) (by omega)
  exact LP4 9 0 (by omega) (by omega)
set_option maxHeartbeats 4000000 in
theorem c_X6_bits (l : Launch) (G : GT) (ws : va_W) {w : Int} (h1 : 0 ≤ w ∧ w < 256) : CtI l G yX6_bits cX6_bits 3 (some .int) 1 [vI w] ws (popP w) ws := by
  refine CtI.of (by decide) (Nat.le_of_ble_eq_true rfl) ?_
  intro p e s m args below meth c A E hr
  refine jx_lv (lv' := [(0, vI w)]) [0] rfl ?_
  refine jx_iconst E dX6_bits_0 ?_
  refine jx_istore_n E dX6_bits_1 (by decide) [(1, vI 0), (0, vI w)] rfl ?_
  refine jx_iload_n E 1 dX6_bits_2 rfl ?_
  refine jx_istore_n E dX6_bits_3 (by decide) [(2, vI w), (1, vI 0), (0, vI w)] rfl ?_
  have LP4 : ∀ (n2 : Nat) (r : Int) (z : Int), (0 ≤ r ∧ r < 256) → (r < n2) → (z + popP r = popP w) → JX p l e (rmL 1) s m args below meth c 3 G A 0 0 (QI below args s G A (popP w) (ws)) (ws) 4 [(2, vI r), (1, vI z), (0, vI w)] [] := by
    intro n2
    induction n2 with
    | zero => intro r z q1 q2 hn; exfalso; omega
    | succ n2 ih =>
      intro r z q1 q2 hn
      have ha := fun q => and_of (r := r) ⟨q, q1.2⟩
      refine jx_iload_n E 0 dX6_bits_4 rfl ?_
      refine jx_if_eq (tgt := 20) E dX6_bits_5 (by decide) (fun c1 => ?_) (fun c1 => ?_)
      · skip
        refine jx_iload_n E 1 dX6_bits_20 rfl ?_
        exact jx_iret E hr dX6_bits_21 (by rw [← hn, c1]; simp [popP]) (by first | rfl | (congr 1; done))
      · skip
        have ha := ha (by omega)
        refine jx_iinc E 1 dX6_bits_8 rfl (by decide) [(1, vI (z + 1)), (2, vI r), (0, vI w)] rfl ?_
        refine jx_iload_n E 1 dX6_bits_11 rfl ?_
        refine jx_iload_n E 1 dX6_bits_12 rfl ?_
        refine jx_iconst E dX6_bits_13 ?_
        refine jx_isub E dX6_bits_14 ?_
        refine jx_iand E (z := (iI r &&& iI (r - 1)).toInt) dX6_bits_15 (iI_of _) ?_
        refine jx_istore_n E dX6_bits_16 (by decide) [(2, vI ((iI r &&& iI (r - 1)).toInt)), (1, vI (z + 1)), (0, vI w)] rfl ?_
        refine jx_goto (tgt := 4) E dX6_bits_17 (by decide) ?_
        exact ih _ _ (by omega) (by omega) (by omega)
  exact LP4 257 _ _ (by omega) (by omega) (by omega)
set_option maxHeartbeats 4000000 in
theorem c_X6_comesAs (l : Launch) (G : GT) (b : Nat → Nat) (y : MS) {kd hg lo of : Int} (h1 : 0 ≤ y 0 4 ∧ y 0 4 < 8) : CtI l G yX6_comesAs cX6_comesAs 6 (some .int) 2 [.ref (b 0), vI kd, vI hg, vI lo, vI of] (wsM G b y) ((y 0) 4) (wsM G b (setc y 0 (newP (y 0) kd hg of lo))) := by
  refine CtI.of (by decide) (Nat.le_of_ble_eq_true rfl) ?_
  intro p e s m args below meth c A E hr
  refine jx_lv (lv' := [(0, .ref (b 0)), (1, vI kd), (2, vI hg), (3, vI lo), (4, vI of)]) [0, 1, 2, 3, 4] rfl ?_
  refine jx_aload_n E 0 dX6_comesAs_0 rfl ?_
  refine jx_get E f_X6 0 (v := .ref (b 1)) wm_obj (by decide) wf_X6_9 rfl dX6_comesAs_1 ?_
  refine jx_iconst E dX6_comesAs_4 ?_
  refine jx_iald E (v := (y 0) 4) wm_m (row0_at (by omega) (by omega)) (by omega) (by omega) (by decide) dX6_comesAs_5 ?_
  refine jx_istore E dX6_comesAs_6 (by decide) [(5, vI ((y 0) 4)), (0, .ref (b 0)), (1, vI kd), (2, vI hg), (3, vI lo), (4, vI of)] rfl ?_
  refine jx_aload_n E 1 dX6_comesAs_8 rfl ?_
  refine jx_get E f_X6 0 (v := .ref (b 1)) wm_obj (by decide) wf_X6_9 rfl dX6_comesAs_9 ?_
  refine jx_iconst E dX6_comesAs_12 ?_
  refine jx_dup2 E dX6_comesAs_13 ?_
  refine jx_iald E (v := (y 0) 4) wm_m (row0_at (by omega) (by omega)) (by omega) (by omega) (by decide) dX6_comesAs_14 ?_
  refine jx_iconst E dX6_comesAs_15 ?_
  refine jx_iadd E dX6_comesAs_16 ?_
  refine jx_iast E wm_m (wq_m (by omega) (by omega)) (by omega) (by omega) (by decide) dX6_comesAs_17 ?_
  refine jx_aload_n E 1 dX6_comesAs_18 rfl ?_
  refine jx_iload E 0 dX6_comesAs_19 rfl ?_
  refine jx_iconst E dX6_comesAs_21 ?_
  refine jx_iload_n E 2 dX6_comesAs_22 rfl ?_
  refine jx_callVv E [vI ((y 0) 4), vI 0, vI kd] [] (c_X6_put l G b (setc y 0 (updI (y 0) 4 (((y 0) 4) + 1))) (f := (y 0) 4) (what := 0) (v := kd) (by omega) (by omega) (by omega) (by omega)) mb_X6_put mv_X6_put wl_X6_86 f_X6 wm_obj dX6_comesAs_23 ?_
  refine jx_eq (ws' := wsM G b (setc y 0 (updI (updI (y 0) 4 (((y 0) 4) + 1)) (21 + 5 * ((y 0) 4)) kd))) (congrArg (wsM G b) (by simp only [Int.add_zero]; first | done | rfl | (rw [setc_setc]; rfl) | (simp only [setc_setc, setc_at]; done))) ?_
  refine jx_aload_n E 1 dX6_comesAs_26 rfl ?_
  refine jx_iload E 0 dX6_comesAs_27 rfl ?_
  refine jx_iconst E dX6_comesAs_29 ?_
  refine jx_iload_n E 3 dX6_comesAs_30 rfl ?_
  refine jx_callVv E [vI ((y 0) 4), vI 1, vI hg] [] (c_X6_put l G b (setc y 0 (updI (updI (y 0) 4 (((y 0) 4) + 1)) (21 + 5 * ((y 0) 4)) kd)) (f := (y 0) 4) (what := 1) (v := hg) (by omega) (by omega) (by omega) (by omega)) mb_X6_put mv_X6_put wl_X6_86 f_X6 wm_obj dX6_comesAs_31 ?_
  refine jx_eq (ws' := wsM G b (setc y 0 (updI (updI (updI (y 0) 4 (((y 0) 4) + 1)) (21 + 5 * ((y 0) 4)) kd) (21 + 5 * ((y 0) 4) + 1) hg))) (congrArg (wsM G b) (by first | rfl | (rw [setc_setc]; rfl) | (simp only [setc_setc, setc_at]; done) | (simp only [setc_setc, setc_at]; rfl) | (funext d; simp only [setc_app]; (repeat' split) <;> first | rfl | omega | simp_all))) ?_
  refine jx_aload_n E 1 dX6_comesAs_34 rfl ?_
  refine jx_iload E 0 dX6_comesAs_35 rfl ?_
  refine jx_iconst E dX6_comesAs_37 ?_
  refine jx_iload E 5 dX6_comesAs_38 rfl ?_
  refine jx_callVv E [vI ((y 0) 4), vI 2, vI of] [] (c_X6_put l G b (setc y 0 (updI (updI (updI (y 0) 4 (((y 0) 4) + 1)) (21 + 5 * ((y 0) 4)) kd) (21 + 5 * ((y 0) 4) + 1) hg)) (f := (y 0) 4) (what := 2) (v := of) (by omega) (by omega) (by omega) (by omega)) mb_X6_put mv_X6_put wl_X6_86 f_X6 wm_obj dX6_comesAs_40 ?_
  refine jx_eq (ws' := wsM G b (setc y 0 (updI (updI (updI (updI (y 0) 4 (((y 0) 4) + 1)) (21 + 5 * ((y 0) 4)) kd) (21 + 5 * ((y 0) 4) + 1) hg) (21 + 5 * ((y 0) 4) + 2) of))) (congrArg (wsM G b) (by first | rfl | (rw [setc_setc]; rfl) | (simp only [setc_setc, setc_at]; done) | (simp only [setc_setc, setc_at]; rfl) | (funext d; simp only [setc_app]; (repeat' split) <;> first | rfl | omega | simp_all))) ?_
  refine jx_aload_n E 1 dX6_comesAs_43 rfl ?_
  refine jx_iload E 0 dX6_comesAs_44 rfl ?_
  refine jx_iconst E dX6_comesAs_46 ?_
  refine jx_iload_n E 4 dX6_comesAs_47 rfl ?_
  refine jx_callVv E [vI ((y 0) 4), vI 3, vI lo] [] (c_X6_put l G b (setc y 0 (updI (updI (updI (updI (y 0) 4 (((y 0) 4) + 1)) (21 + 5 * ((y 0) 4)) kd) (21 + 5 * ((y 0) 4) + 1) hg) (21 + 5 * ((y 0) 4) + 2) of)) (f := (y 0) 4) (what := 3) (v := lo) (by omega) (by omega) (by omega) (by omega)) mb_X6_put mv_X6_put wl_X6_86 f_X6 wm_obj dX6_comesAs_48 ?_
  refine jx_eq (ws' := wsM G b (setc y 0 (updI (updI (updI (updI (updI (y 0) 4 (((y 0) 4) + 1)) (21 + 5 * ((y 0) 4)) kd) (21 + 5 * ((y 0) 4) + 1) hg) (21 + 5 * ((y 0) 4) + 2) of) (21 + 5 * ((y 0) 4) + 3) lo))) (congrArg (wsM G b) (by first | rfl | (rw [setc_setc]; rfl) | (simp only [setc_setc, setc_at]; done) | (simp only [setc_setc, setc_at]; rfl) | (funext d; simp only [setc_app]; (repeat' split) <;> first | rfl | omega | simp_all))) ?_
  refine jx_aload_n E 1 dX6_comesAs_51 rfl ?_
  refine jx_iload E 0 dX6_comesAs_52 rfl ?_
  refine jx_iconst E dX6_comesAs_54 ?_
  refine jx_iconst E dX6_comesAs_55 ?_
  refine jx_callVv E [vI ((y 0) 4), vI 4, vI 0] [] (c_X6_put l G b (setc y 0 (updI (updI (updI (updI (updI (y 0) 4 (((y 0) 4) + 1)) (21 + 5 * ((y 0) 4)) kd) (21 + 5 * ((y 0) 4) + 1) hg) (21 + 5 * ((y 0) 4) + 2) of) (21 + 5 * ((y 0) 4) + 3) lo)) (f := (y 0) 4) (what := 4) (v := 0) (by omega) (by omega) (by omega) (by omega)) mb_X6_put mv_X6_put wl_X6_86 f_X6 wm_obj dX6_comesAs_56 ?_
  refine jx_eq (ws' := wsM G b (setc y 0 (updI (updI (updI (updI (updI (updI (y 0) 4 (((y 0) 4) + 1)) (21 + 5 * ((y 0) 4)) kd) (21 + 5 * ((y 0) 4) + 1) hg) (21 + 5 * ((y 0) 4) + 2) of) (21 + 5 * ((y 0) 4) + 3) lo) (21 + 5 * ((y 0) 4) + 4) 0))) (congrArg (wsM G b) (by first | rfl | (rw [setc_setc]; rfl) | (simp only [setc_setc, setc_at]; done) | (simp only [setc_setc, setc_at]; rfl) | (funext d; simp only [setc_app]; (repeat' split) <;> first | rfl | omega | simp_all))) ?_
  refine jx_iload E 0 dX6_comesAs_59 rfl ?_
  exact jx_iret E hr dX6_comesAs_61 (by first | rfl | omega) (by first | rfl | (congr 1; done))
set_option maxHeartbeats 4000000 in
theorem c_X6_mostOf (l : Launch) (G : GT) (ws : va_W) {w : Int} (h1 : inR w) : CtI l G yX6_mostOf cX6_mostOf 1 (some .int) 1 [vI w] ws (if w = 1 then 40 else if w = 2 then 1 else if w = 3 then 99 else 9999) ws := by
  unfold inR at h1
  refine CtI.of (by decide) (Nat.le_of_ble_eq_true rfl) ?_
  intro p e s m args below meth c A E hr
  refine jx_lv (lv' := [(0, vI w)]) [0] rfl ?_
  refine jx_iload_n E 0 dX6_mostOf_0 rfl ?_
  refine jx_iconst E dX6_mostOf_1 ?_
  refine jx_icmp_ne (tgt := 10) E dX6_mostOf_2 (by decide) (fun c1 => ?_) (fun c1 => ?_)
  · skip
    refine jx_iload_n E 0 dX6_mostOf_10 rfl ?_
    refine jx_iconst E dX6_mostOf_11 ?_
    refine jx_icmp_ne (tgt := 19) E dX6_mostOf_12 (by decide) (fun c2 => ?_) (fun c2 => ?_)
    · skip
      refine jx_iload_n E 0 dX6_mostOf_19 rfl ?_
      refine jx_iconst E dX6_mostOf_20 ?_
      refine jx_icmp_ne (tgt := 29) E dX6_mostOf_21 (by decide) (fun c3 => ?_) (fun c3 => ?_)
      · skip
        refine jx_sipush E dX6_mostOf_29 ?_
        exact jx_iret E hr dX6_mostOf_32 (by omega) (by first | rfl | (congr 1; done))
      · skip
        refine jx_bipush E dX6_mostOf_24 ?_
        refine jx_goto (tgt := 32) E dX6_mostOf_26 (by decide) ?_
        exact jx_iret E hr dX6_mostOf_32 (by omega) (by first | rfl | (congr 1; done))
    · skip
      refine jx_iconst E dX6_mostOf_15 ?_
      refine jx_goto (tgt := 32) E dX6_mostOf_16 (by decide) ?_
      exact jx_iret E hr dX6_mostOf_32 (by omega) (by first | rfl | (congr 1; done))
  · skip
    refine jx_bipush E dX6_mostOf_5 ?_
    refine jx_goto (tgt := 32) E dX6_mostOf_7 (by decide) ?_
    exact jx_iret E hr dX6_mostOf_32 (by omega) (by first | rfl | (congr 1; done))
set_option maxHeartbeats 4000000 in
theorem c_X6_turnsOff (l : Launch) (G : GT) (b : Nat → Nat) (y : MS) {f : Int} (h1 : 0 ≤ f) (h2 : f < 8) (h3 : 0 ≤ y 0 (21 + 5 * f + 4) ∧ y 0 (21 + 5 * f + 4) ≤ 9999) : CtV l G yX6_turnsOff cX6_turnsOff 2 none 2 [.ref (b 0), vI f] (wsM G b y) (wsM G b (setc y 0 (stoopP (y 0) f))) := by
  have hq : updI (y 0) (21 + 5 * f + 2) 1 (21 + 5 * f + 4) = y 0 (21 + 5 * f + 4) := updI_ne _ _ (by omega)
  refine CtV.of (by decide) (Nat.le_of_ble_eq_true rfl) ?_
  intro p e s m args below meth c A E hr
  refine jx_lv (lv' := [(0, .ref (b 0)), (1, vI f)]) [0, 1] rfl ?_
  refine jx_aload_n E 0 dX6_turnsOff_0 rfl ?_
  refine jx_iload_n E 1 dX6_turnsOff_1 rfl ?_
  refine jx_iconst E dX6_turnsOff_2 ?_
  refine jx_iconst E dX6_turnsOff_3 ?_
  refine jx_callVv E [vI f, vI 2, vI 1] [] (c_X6_put l G b y (f := f) (what := 2) (v := 1) (by omega) (by omega) (by omega) (by omega)) mb_X6_put mv_X6_put wl_X6_86 f_X6 wm_obj dX6_turnsOff_4 ?_
  refine jx_aload_n E 0 dX6_turnsOff_7 rfl ?_
  refine jx_iload_n E 1 dX6_turnsOff_8 rfl ?_
  refine jx_iconst E dX6_turnsOff_9 ?_
  refine jx_aload_n E 0 dX6_turnsOff_10 rfl ?_
  refine jx_iload_n E 1 dX6_turnsOff_11 rfl ?_
  refine jx_iconst E dX6_turnsOff_12 ?_
  refine jx_callVi E [vI f, vI 4] [vI 4, vI f, .ref (b 0)] (c_X6_it l G b (setc y 0 (updI (y 0) (21 + 5 * f + 2) 1)) (f := f) (what := 4) (by omega) (by omega) (by omega) (by omega)) mb_X6_it mv_X6_it wl_X6_49 f_X6 wm_obj dX6_turnsOff_13 ?_
  refine jx_st (st' := [vI ((updI (y 0) (21 + 5 * f + 2) 1) (21 + 5 * f + 4)), vI 4, vI f, .ref (b 0)]) (by first | rfl | (simp only [setc_at]; done) | (simp only [setc_at]; rfl)) ?_
  refine jx_iconst E dX6_turnsOff_16 ?_
  refine jx_iadd E dX6_turnsOff_17 ?_
  refine jx_iconst E dX6_turnsOff_18 ?_
  refine jx_sipush E dX6_turnsOff_19 ?_
  refine jx_callSi E [vI (((updI (y 0) (21 + 5 * f + 2) 1) (21 + 5 * f + 4)) + 1), vI 0, vI 9999] [vI 4, vI f, .ref (b 0)] (c_X6_held l G (wsM G b (setc y 0 (updI (y 0) (21 + 5 * f + 2) 1))) (v := ((updI (y 0) (21 + 5 * f + 2) 1) (21 + 5 * f + 4)) + 1) (lo := 0) (hi := 9999) (by unfold inR; omega) (by unfold inR; omega) (by unfold inR; omega)) mb_X6_held ms_X6_held wl_X6_53 dX6_turnsOff_22 ?_
  refine jx_st (st' := [vI (if ((updI (y 0) (21 + 5 * f + 2) 1) (21 + 5 * f + 4)) + 1 < 0 then 0 else if 9999 < ((updI (y 0) (21 + 5 * f + 2) 1) (21 + 5 * f + 4)) + 1 then 9999 else ((updI (y 0) (21 + 5 * f + 2) 1) (21 + 5 * f + 4)) + 1), vI 4, vI f, .ref (b 0)]) (by first | rfl | (simp only [setc_at]; done) | (simp only [setc_at]; rfl)) ?_
  refine jx_callVv E [vI f, vI 4, vI (if ((updI (y 0) (21 + 5 * f + 2) 1) (21 + 5 * f + 4)) + 1 < 0 then 0 else if 9999 < ((updI (y 0) (21 + 5 * f + 2) 1) (21 + 5 * f + 4)) + 1 then 9999 else ((updI (y 0) (21 + 5 * f + 2) 1) (21 + 5 * f + 4)) + 1)] [] (c_X6_put l G b (setc y 0 (updI (y 0) (21 + 5 * f + 2) 1)) (f := f) (what := 4) (v := (if ((updI (y 0) (21 + 5 * f + 2) 1) (21 + 5 * f + 4)) + 1 < 0 then 0 else if 9999 < ((updI (y 0) (21 + 5 * f + 2) 1) (21 + 5 * f + 4)) + 1 then 9999 else ((updI (y 0) (21 + 5 * f + 2) 1) (21 + 5 * f + 4)) + 1)) (by omega) (by omega) (by omega) (by omega)) mb_X6_put mv_X6_put wl_X6_86 f_X6 wm_obj dX6_turnsOff_25 ?_
  refine jx_eq (ws' := wsM G b (setc y 0 (updI (updI (y 0) (21 + 5 * f + 2) 1) (21 + 5 * f + 4) (if ((updI (y 0) (21 + 5 * f + 2) 1) (21 + 5 * f + 4)) + 1 < 0 then 0 else if 9999 < ((updI (y 0) (21 + 5 * f + 2) 1) (21 + 5 * f + 4)) + 1 then 9999 else ((updI (y 0) (21 + 5 * f + 2) 1) (21 + 5 * f + 4)) + 1)))) (congrArg (wsM G b) (by first | rfl | (rw [setc_setc]; rfl) | (simp only [setc_setc, setc_at]; done) | (simp only [setc_setc, setc_at]; rfl) | (funext d; simp only [setc_app]; (repeat' split) <;> first | rfl | omega | simp_all))) ?_
  exact jx_vret E hr dX6_turnsOff_28 (congrArg (fun z => wsM G b (setc y 0 (updI (updI (y 0) (21 + 5 * f + 2) 1) (21 + 5 * f + 4) z))) (by omega))
set_option maxHeartbeats 4000000 in
theorem c_X6_committee (l : Launch) (G : GT) (b : Nat → Nat) (y : MS) (h1 : VV (y 0)) : CtV l G yX6_committee cX6_committee 2 none 4 [.ref (b 0)] (wsM G b y) (wsM G b (setc y 0 (committeeP (y 0)))) := by
  have hF := h1.2.2.2.2.2.2.2
  have h4 := h1.2.2.2.2.1
  obtain ⟨hD, hC⟩ := VV_use h1
  have b1 := best_in (y 0) 0 1 (y 0 4).toNat
  have b2 := best_in (y 0) 1 0 (y 0 4).toNat
  obtain ⟨-, v1, v2, v3, -⟩ := id h1
  refine CtV.of (by decide) (Nat.le_of_ble_eq_true rfl) ?_
  intro p e s m args below meth c A E hr
  refine jx_lv (lv' := [(0, .ref (b 0))]) [0] rfl ?_
  have JN50 : ∀ (f : Int), ((y 0 1 < y 0 2 ∧ f = bestP (y 0) 0 1 (y 0 4).toNat) ∨ (y 0 2 ≤ y 0 1 ∧ y 0 3 ≤ y 0 1 ∧ f = bestP (y 0) 1 0 (y 0 4).toNat) ∨ (y 0 2 ≤ y 0 1 ∧ y 0 1 < y 0 3 ∧ f = -1)) → JX p l e (rmL 4) s m args below meth c 2 G A 0 0 (QV below args s G A (wsM G b (setc y 0 (committeeP (y 0))))) (wsM G b y) 50 [(1, vI f), (0, .ref (b 0))] [] := by
    intro f hf
    refine jx_iload_n E 0 dX6_committee_50 rfl ?_
    refine jx_if_lt (tgt := 77) E dX6_committee_51 (by decide) (fun c1 => ?_) (fun c1 => ?_)
    · skip
      refine jx_iload_n E 0 dX6_committee_77 rfl ?_
      refine jx_if_lt (tgt := 88) E dX6_committee_78 (by decide) (fun c2 => ?_) (fun c2 => ?_)
      · skip
        exact jx_vret E hr dX6_committee_88 (by rcases hf with ⟨g1, g2⟩ | ⟨g1, g2, g3⟩ | ⟨g1, g2, g3⟩ <;> first | (exfalso; omega) | (subst_vars; simp only [committeeP]; first | (rw [if_pos g1, if_pos (by omega), setc_self]; done) | (rw [if_pos g1, if_neg (by omega)]; done) | (rw [if_neg (by omega), if_pos g2, if_pos (by omega), setc_self]; done) | (rw [if_neg (by omega), if_pos g2, if_neg (by omega)]; done) | (rw [if_neg (by omega), if_neg (by omega), setc_self]; done)))
      · skip
        refine jx_aload_n E 1 dX6_committee_81 rfl ?_
        refine jx_iload_n E 0 dX6_committee_82 rfl ?_
        refine jx_iconst E dX6_committee_83 ?_
        refine jx_iconst E dX6_committee_84 ?_
        refine jx_callVv E [vI f, vI 2, vI 0] [] (c_X6_put l G b y (f := f) (what := 2) (v := 0) (by omega) (by omega) (by omega) (by omega)) mb_X6_put mv_X6_put wl_X6_86 f_X6 wm_obj dX6_committee_85 ?_
        exact jx_vret E hr dX6_committee_88 (by rcases hf with ⟨g1, g2⟩ | ⟨g1, g2, g3⟩ | ⟨g1, g2, g3⟩ <;> first | (exfalso; omega) | (subst_vars; simp only [committeeP]; first | (rw [if_pos g1, if_pos (by omega), setc_self]; done) | (rw [if_pos g1, if_neg (by omega)]; done) | (rw [if_neg (by omega), if_pos g2, if_pos (by omega), setc_self]; done) | (rw [if_neg (by omega), if_pos g2, if_neg (by omega)]; done) | (rw [if_neg (by omega), if_neg (by omega), setc_self]; done)))
    · skip
      refine jx_aload_n E 1 dX6_committee_54 rfl ?_
      refine jx_get E f_X6 0 (v := .ref (b 1)) wm_obj (by decide) wf_X6_9 rfl dX6_committee_55 ?_
      refine jx_iconst E dX6_committee_58 ?_
      refine jx_iald E (v := (y 0) 1) wm_m (row0_at (by omega) (by omega)) (by omega) (by omega) (by decide) dX6_committee_59 ?_
      refine jx_aload_n E 1 dX6_committee_60 rfl ?_
      refine jx_get E f_X6 0 (v := .ref (b 1)) wm_obj (by decide) wf_X6_9 rfl dX6_committee_61 ?_
      refine jx_iconst E dX6_committee_64 ?_
      refine jx_iald E (v := (y 0) 2) wm_m (row0_at (by omega) (by omega)) (by omega) (by omega) (by decide) dX6_committee_65 ?_
      refine jx_icmp_ge (tgt := 77) E dX6_committee_66 (by decide) (fun c3 => ?_) (fun c3 => ?_)
      · skip
        refine jx_iload_n E 0 dX6_committee_77 rfl ?_
        refine jx_if_lt (tgt := 88) E dX6_committee_78 (by decide) (fun c4 => ?_) (fun c4 => ?_)
        · skip
          exact jx_vret E hr dX6_committee_88 (by rcases hf with ⟨g1, g2⟩ | ⟨g1, g2, g3⟩ | ⟨g1, g2, g3⟩ <;> first | (exfalso; omega) | (subst_vars; simp only [committeeP]; first | (rw [if_pos g1, if_pos (by omega), setc_self]; done) | (rw [if_pos g1, if_neg (by omega)]; done) | (rw [if_neg (by omega), if_pos g2, if_pos (by omega), setc_self]; done) | (rw [if_neg (by omega), if_pos g2, if_neg (by omega)]; done) | (rw [if_neg (by omega), if_neg (by omega), setc_self]; done)))
        · skip
          refine jx_aload_n E 1 dX6_committee_81 rfl ?_
          refine jx_iload_n E 0 dX6_committee_82 rfl ?_
          refine jx_iconst E dX6_committee_83 ?_
          refine jx_iconst E dX6_committee_84 ?_
          refine jx_callVv E [vI f, vI 2, vI 0] [] (c_X6_put l G b y (f := f) (what := 2) (v := 0) (by omega) (by omega) (by omega) (by omega)) mb_X6_put mv_X6_put wl_X6_86 f_X6 wm_obj dX6_committee_85 ?_
          exact jx_vret E hr dX6_committee_88 (by rcases hf with ⟨g1, g2⟩ | ⟨g1, g2, g3⟩ | ⟨g1, g2, g3⟩ <;> first | (exfalso; omega) | (subst_vars; simp only [committeeP]; first | (rw [if_pos g1, if_pos (by omega), setc_self]; done) | (rw [if_pos g1, if_neg (by omega)]; done) | (rw [if_neg (by omega), if_pos g2, if_pos (by omega), setc_self]; done) | (rw [if_neg (by omega), if_pos g2, if_neg (by omega)]; done) | (rw [if_neg (by omega), if_neg (by omega), setc_self]; done)))
      · skip
        refine jx_aload_n E 1 dX6_committee_69 rfl ?_
        refine jx_iload_n E 0 dX6_committee_70 rfl ?_
        refine jx_callVv E [vI f] [] (c_X6_turnsOff l G b y (f := f) (by omega) (by omega) (hF _ (by omega) (by omega)).2.2.2.2) mb_X6_turnsOff mv_X6_turnsOff wl_X6_112 f_X6 wm_obj dX6_committee_71 ?_
        refine jx_goto (tgt := 88) E dX6_committee_74 (by decide) ?_
        exact jx_vret E hr dX6_committee_88 (by rcases hf with ⟨g1, g2⟩ | ⟨g1, g2, g3⟩ | ⟨g1, g2, g3⟩ <;> first | (exfalso; omega) | (subst_vars; simp only [committeeP]; first | (rw [if_pos g1, if_pos (by omega), setc_self]; done) | (rw [if_pos g1, if_neg (by omega)]; done) | (rw [if_neg (by omega), if_pos g2, if_pos (by omega), setc_self]; done) | (rw [if_neg (by omega), if_pos g2, if_neg (by omega)]; done) | (rw [if_neg (by omega), if_neg (by omega), setc_self]; done)))
  refine jx_aload_n E 0 dX6_committee_0 rfl ?_
  refine jx_get E f_X6 0 (v := .ref (b 1)) wm_obj (by decide) wf_X6_9 rfl dX6_committee_1 ?_
  refine jx_iconst E dX6_committee_4 ?_
  refine jx_iald E (v := (y 0) 1) wm_m (row0_at (by omega) (by omega)) (by omega) (by omega) (by decide) dX6_committee_5 ?_
  refine jx_aload_n E 0 dX6_committee_6 rfl ?_
  refine jx_get E f_X6 0 (v := .ref (b 1)) wm_obj (by decide) wf_X6_9 rfl dX6_committee_7 ?_
  refine jx_iconst E dX6_committee_10 ?_
  refine jx_iald E (v := (y 0) 2) wm_m (row0_at (by omega) (by omega)) (by omega) (by omega) (by decide) dX6_committee_11 ?_
  refine jx_icmp_ge (tgt := 24) E dX6_committee_12 (by decide) (fun c5 => ?_) (fun c5 => ?_)
  · skip
    refine jx_aload_n E 0 dX6_committee_24 rfl ?_
    refine jx_get E f_X6 0 (v := .ref (b 1)) wm_obj (by decide) wf_X6_9 rfl dX6_committee_25 ?_
    refine jx_iconst E dX6_committee_28 ?_
    refine jx_iald E (v := (y 0) 1) wm_m (row0_at (by omega) (by omega)) (by omega) (by omega) (by decide) dX6_committee_29 ?_
    refine jx_aload_n E 0 dX6_committee_30 rfl ?_
    refine jx_get E f_X6 0 (v := .ref (b 1)) wm_obj (by decide) wf_X6_9 rfl dX6_committee_31 ?_
    refine jx_iconst E dX6_committee_34 ?_
    refine jx_iald E (v := (y 0) 3) wm_m (row0_at (by omega) (by omega)) (by omega) (by omega) (by decide) dX6_committee_35 ?_
    refine jx_icmp_lt (tgt := 48) E dX6_committee_36 (by decide) (fun c6 => ?_) (fun c6 => ?_)
    · skip
      refine jx_iconst E dX6_committee_48 ?_
      refine jx_istore_n E dX6_committee_49 (by decide) [(1, vI (-1)), (0, .ref (b 0))] rfl ?_
      exact JN50 _ (by omega)
    · skip
      refine jx_aload_n E 0 dX6_committee_39 rfl ?_
      refine jx_iconst E dX6_committee_40 ?_
      refine jx_iconst E dX6_committee_41 ?_
      refine jx_callVi E [vI 1, vI 0] [] (c_X6_first l G b y (off := 1) (most := 0) h1 (by omega)) mb_X6_first mv_X6_first wl_X6_105 f_X6 wm_obj dX6_committee_42 ?_
      refine jx_goto (tgt := 49) E dX6_committee_45 (by decide) ?_
      refine jx_istore_n E dX6_committee_49 (by decide) [(1, vI (bestP (y 0) 1 0 ((y 0) 4).toNat)), (0, .ref (b 0))] rfl ?_
      exact JN50 _ (by omega)
  · skip
    refine jx_aload_n E 0 dX6_committee_15 rfl ?_
    refine jx_iconst E dX6_committee_16 ?_
    refine jx_iconst E dX6_committee_17 ?_
    refine jx_callVi E [vI 0, vI 1] [] (c_X6_first l G b y (off := 0) (most := 1) h1 (by omega)) mb_X6_first mv_X6_first wl_X6_105 f_X6 wm_obj dX6_committee_18 ?_
    refine jx_goto (tgt := 49) E dX6_committee_21 (by decide) ?_
    refine jx_istore_n E dX6_committee_49 (by decide) [(1, vI (bestP (y 0) 0 1 ((y 0) 4).toNat)), (0, .ref (b 0))] rfl ?_
    exact JN50 _ (by omega)
set_option maxHeartbeats 4000000 in
theorem c_X6_flows (l : Launch) (G : GT) (b : Nat → Nat) (y : MS) {f : Int} (h1 : VV (y 0)) (h2 : 0 ≤ f ∧ f < y 0 4) : CtV l G yX6_flows cX6_flows 2 none 4 [.ref (b 0), vI f] (wsM G b y) (wsM G b (setc y 0 (flowP (coldP (y 0)) (y 0) f))) := by
  have hF := h1.2.2.2.2.2.2.2
  have h4 := h1.2.2.2.2.1
  obtain ⟨hD, hC⟩ := VV_use h1
  have hf := hF f h2.1 h2.2
  have hu := uses_in (c := coldP (y 0)) hf
  obtain ⟨k1, k2, k3, k4, k5⟩ := id hf
  have v1 := h1.2.1
  refine CtV.of (by decide) (Nat.le_of_ble_eq_true rfl) ?_
  intro p e s m args below meth c A E hr
  refine jx_lv (lv' := [(0, .ref (b 0)), (1, vI f)]) [0, 1] rfl ?_
  refine jx_aload_n E 0 dX6_flows_0 rfl ?_
  refine jx_get E f_X6 0 (v := .ref (b 1)) wm_obj (by decide) wf_X6_9 rfl dX6_flows_1 ?_
  refine jx_iconst E dX6_flows_4 ?_
  refine jx_iald E (v := (y 0) 1) wm_m (row0_at (by omega) (by omega)) (by omega) (by omega) (by decide) dX6_flows_5 ?_
  refine jx_aload_n E 0 dX6_flows_6 rfl ?_
  refine jx_iload_n E 1 dX6_flows_7 rfl ?_
  refine jx_callVi E [vI f] [vI ((y 0) 1)] (c_X6_uses l G b y (f := f) (by omega) (by omega) hf hD hC) mb_X6_uses mv_X6_uses wl_X6_74 f_X6 wm_obj dX6_flows_8 ?_
  refine jx_icmp_lt (tgt := 31) E dX6_flows_11 (by decide) (fun c1 => ?_) (fun c1 => ?_)
  · skip
    refine jx_aload_n E 0 dX6_flows_31 rfl ?_
    refine jx_iload_n E 1 dX6_flows_32 rfl ?_
    refine jx_iconst E dX6_flows_33 ?_
    refine jx_callVi E [vI f, vI 0] [] (c_X6_it l G b y (f := f) (what := 0) (by omega) (by omega) (by omega) (by omega)) mb_X6_it mv_X6_it wl_X6_49 f_X6 wm_obj dX6_flows_34 ?_
    refine jx_st (st' := [vI ((y 0) (21 + 5 * f))]) (by simp only [Int.add_zero]; first | done | rfl) ?_
    refine jx_iconst E dX6_flows_37 ?_
    refine jx_icmp_eq (tgt := 46) E dX6_flows_38 (by decide) (fun c2 => ?_) (fun c2 => ?_)
    · skip
      exact jx_vret E hr dX6_flows_46 (by simp only [flowP]; first | (rw [if_pos (by assumption)]; done) | (rw [if_neg (by omega), if_pos (by assumption), setc_self]; done) | (rw [if_neg (by omega), if_neg (by assumption)]; done))
    · skip
      refine jx_aload_n E 0 dX6_flows_41 rfl ?_
      refine jx_iload_n E 1 dX6_flows_42 rfl ?_
      refine jx_callVv E [vI f] [] (c_X6_turnsOff l G b y (f := f) (by omega) (by omega) (by omega)) mb_X6_turnsOff mv_X6_turnsOff wl_X6_112 f_X6 wm_obj dX6_flows_43 ?_
      exact jx_vret E hr dX6_flows_46 (by simp only [flowP]; first | (rw [if_pos (by assumption)]; done) | (rw [if_neg (by omega), if_pos (by assumption), setc_self]; done) | (rw [if_neg (by omega), if_neg (by assumption)]; done))
  · skip
    refine jx_aload_n E 0 dX6_flows_14 rfl ?_
    refine jx_get E f_X6 0 (v := .ref (b 1)) wm_obj (by decide) wf_X6_9 rfl dX6_flows_15 ?_
    refine jx_iconst E dX6_flows_18 ?_
    refine jx_dup2 E dX6_flows_19 ?_
    refine jx_iald E (v := (y 0) 1) wm_m (row0_at (by omega) (by omega)) (by omega) (by omega) (by decide) dX6_flows_20 ?_
    refine jx_aload_n E 0 dX6_flows_21 rfl ?_
    refine jx_iload_n E 1 dX6_flows_22 rfl ?_
    refine jx_callVi E [vI f] [vI ((y 0) 1), vI 1, .ref (b 1)] (c_X6_uses l G b y (f := f) (by omega) (by omega) hf hD hC) mb_X6_uses mv_X6_uses wl_X6_74 f_X6 wm_obj dX6_flows_23 ?_
    refine jx_isub E dX6_flows_26 ?_
    refine jx_iast E wm_m (wq_m (by omega) (by omega)) (by omega) (by omega) (by decide) dX6_flows_27 ?_
    refine jx_goto (tgt := 46) E dX6_flows_28 (by decide) ?_
    exact jx_vret E hr dX6_flows_46 (by simp only [flowP]; first | (rw [if_pos (by assumption)]; done) | (rw [if_neg (by omega), if_pos (by assumption), setc_self]; done) | (rw [if_neg (by omega), if_neg (by assumption)]; done))
