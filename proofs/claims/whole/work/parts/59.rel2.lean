/-! the text and the sheets keep the two side by side -/
def OUT (r q : Int → Int) : Prop := ∀ k, (k < 2 ∨ 6 < k) → q k = r k
theorem OUT.rf {r : Int → Int} : OUT r r := fun _ _ => rfl
theorem OUT.tr {r q z : Int → Int} (h : OUT r q) (g : OUT q z) : OUT r z := fun k hk => (g k hk).trans (h k hk)
theorem OUT_st (w r : Int → Int) : OUT r (stR w r) := fun k hk => by
  simp only [stR]
  rw [if_neg (by omega), if_neg (by omega), if_neg (by omega), if_neg (by omega)]
theorem OUT_tn (w r : Int → Int) (lo hi : Int) : OUT r (tnR w r lo hi) := by
  unfold tnR
  split
  · exact fun k hk => (OUT_st w (updI r 6 (r 5)) k hk).trans (updI_ne _ _ (by omega))
  · exact OUT.rf
section OUTS
variable (w t r : Int → Int)
theorem OUT_trB (k : Int) : OUT r (trB w t r k).2.2 := by
  unfold trB
  split
  · exact OUT_tn _ _ _ _
  · exact OUT.rf
theorem OUT_tr : OUT r (trR w t r).2.2 := by
  unfold trR
  split
  · exact (OUT_tn _ _ _ _).tr (OUT_trB _ _ _ _)
  · exact OUT.rf
theorem OUT_tf (c : Int) : OUT r (tfR w t r c).2.2 := by
  unfold tfR
  split
  · exact OUT_tn _ _ _ _
  · exact OUT.rf
theorem OUT_tt : OUT r (ttR w t r).2.2 := by
  unfold ttR
  split
  · exact OUT_tn _ _ _ _
  · exact OUT.rf
theorem OUT_D (i : Int) : OUT r (tuD w t r i).2.2 := by
  unfold tuD
  split
  · exact OUT_st _ _
  · exact OUT.rf
theorem OUT_C (i : Int) : OUT r (tuC w t r i).2.2 := by
  unfold tuC
  split
  · split
    · exact ((OUT_st w r).tr (OUT_tn _ _ _ _)).tr (OUT_D _ _ _ _)
    · exact OUT_st _ _
  · exact OUT_D _ _ _ _
theorem OUT_B (i : Int) : OUT r (tuB w t r i).2.2 := by
  unfold tuB
  split
  · split
    · exact ((OUT_st w r).tr (OUT_tn _ _ _ _)).tr (OUT_C _ _ _ _)
    · exact OUT_st _ _
  · exact OUT_C _ _ _ _
theorem OUT_A (kd : Int) : OUT r (tuA w t r kd).2.2 := by
  unfold tuA
  split
  · exact OUT.rf
  · exact (OUT_st w r).tr (OUT_B _ _ _ _)
theorem OUT_ti : OUT r (tiR w t r).2.2 := by
  unfold tiR
  split
  · exact OUT_A _ _ _ _
  split
  · exact (OUT_st w r).tr (OUT_tr _ _ _)
  split
  · exact (OUT_st w r).tr (OUT_tf _ _ _ _)
  split
  · exact (OUT_st w r).tr (OUT_tf _ _ _ _)
  split
  · exact (OUT_st w r).tr (OUT_tt _ _ _)
  · exact OUT.rf
end OUTS
theorem OUT_ri (w : Int → Int) (f : Nat) : ∀ t r : Int → Int, OUT r (riF w f t r).2.2 := by
  induction f with
  | zero => intro t r; exact OUT.rf
  | succ f ih =>
    intro t r
    simp only [riF]
    split
    · split
      · exact OUT_ti _ _ _
      · split
        · exact ((OUT_ti w t r).tr (OUT_st _ _)).tr (ih _ _)
        · exact OUT_ti _ _ _
    · exact OUT_ti _ _ _
theorem OUT_riR (w t r : Int → Int) : OUT r (riR w t r).2.2 := by
  have a : OUT r (updI r 4 0) := fun k hk => updI_ne _ _ (by omega)
  exact (a.tr (OUT_st w _)).tr (OUT_ri w 120 t _)
theorem nu_0 (w s : Int → Int) (lo hi : Int) : nuM w s lo hi 0 = s 0 := by unfold nuM; split <;> rfl
theorem pa_0 (w s : Int → Int) (i : Int) : paM w s i 0 = s 0 := by unfold paM; split <;> rfl
theorem pe_0 (w s : Int → Int) (i lo hi : Int) : peM w s i lo hi 0 = s 0 := by
  unfold peM
  split
  · rw [nu_0]; rfl
  · rfl
theorem fi_0 (w s : Int → Int) : fiS3 w s 0 = s 0 := by
  unfold fiS3; rw [pa_0]
  unfold fiS2; rw [pe_0]
  unfold fiS1; rw [pe_0]
  rfl
theorem it_0 (w t s : Int → Int) : (itM w t s).2 0 = s 0 := by
  unfold itM
  split
  · unfold fiM
    split
    · rfl
    · exact fi_0 w s
  split
  · show nuM w (nuM w _ 0 7) 0 99 0 = _; rw [nu_0, nu_0]; rfl
  split
  · show nuM w _ 0 7 0 = _; rw [nu_0]; rfl
  split
  · show nuM w _ 0 9999 0 = _; rw [nu_0]; rfl
  · rfl
theorem tw_0 (w : Int → Int) (f : Nat) : ∀ (k : Int) (t s : Int → Int), (twF w f k t s).2.2 0 = s 0 := by
  induction f with
  | zero => intro k t s; rfl
  | succ f ih =>
    intro k t s
    simp only [twF]
    split
    · rw [ih, it_0]; rfl
    · rfl
theorem twM_0 (w t s : Int → Int) : (twM w t s).2.2 0 = s 0 := by
  unfold twM
  rw [tw_0, it_0]
  rfl
section REL2
variable {x y : MS}
set_option maxHeartbeats 1000000 in
theorem k_town (h : TWO x y) : (riR (x 3) (hdP (x 1) (x 0) (21 + 5 * (x 0) 4)) (x 9)).1 = (if (twM (y 4) (y 0) (y 8)).2.2 6 = 0 ∧ (twM (y 4) (y 0) (y 8)).2.2 2 = 22 then (twM (y 4) (y 0) (y 8)).1 else -1 - (twM (y 4) (y 0) (y 8)).2.2 3) ∧ TWO (if 0 ≤ (riR (x 3) (hdP (x 1) (x 0) (21 + 5 * (x 0) 4)) (x 9)).1 then setc (setc (setc x 0 (hdP (x 0) (riR (x 3) (hdP (x 1) (x 0) (21 + 5 * (x 0) 4)) (x 9)).2.1 (21 + 5 * (riR (x 3) (hdP (x 1) (x 0) (21 + 5 * (x 0) 4)) (x 9)).2.1 4))) 1 (riR (x 3) (hdP (x 1) (x 0) (21 + 5 * (x 0) 4)) (x 9)).2.1) 9 (updI (riR (x 3) (hdP (x 1) (x 0) (21 + 5 * (x 0) 4)) (x 9)).2.2 1 0) else setc (setc x 1 (riR (x 3) (hdP (x 1) (x 0) (21 + 5 * (x 0) 4)) (x 9)).2.1) 9 (updI (riR (x 3) (hdP (x 1) (x 0) (21 + 5 * (x 0) 4)) (x 9)).2.2 1 0)) (if (twM (y 4) (y 0) (y 8)).2.2 6 = 0 ∧ (twM (y 4) (y 0) (y 8)).2.2 2 = 22 then setc (setc (setc y 2 (y 0)) 0 (twM (y 4) (y 0) (y 8)).2.1) 8 (updI (updI (twM (y 4) (y 0) (y 8)).2.2 6 0) 1 0) else setc (setc (setc y 2 (y 0)) 0 (y 0)) 8 (updI (updI (twM (y 4) (y 0) (y 8)).2.2 6 1) 1 0)) := by
  obtain ⟨h1, h2, h3, ⟨h4, h5⟩, ⟨h6, h7⟩, h8, h9, h10, h11⟩ := id h
  have hg : TG (y 4) (updI (x 9) 4 0) := ⟨by show 0 ≤ x 9 1 ∧ x 9 1 ≤ 120; rw [h5]; exact h6, by show (0 : Int) ≤ 0 ∧ 0 ≤ x 9 1; rw [h5]; omega, by show ∀ k, 0 ≤ k → k < x 9 1 → _; rw [h5]; exact h7⟩
  have hE : EQ (hdP (x 1) (x 0) (21 + 5 * (x 0) 4)) (y 0) := (EQ.hd (by rw [h.e.f4]; exact h.e.1)).tr h.e
  have hT := TW_town (s := y 8) (d := 99999) hg h5 hE h.v
  have ho := OUT_riR (y 4) (hdP (x 1) (x 0) (21 + 5 * (x 0) 4)) (x 9)
  have h0 := twM_0 (y 4) (y 0) (y 8)
  rw [h4]
  generalize riR (y 4) (hdP (x 1) (x 0) (21 + 5 * (x 0) 4)) (x 9) = A at hT ho ⊢
  generalize twM (y 4) (y 0) (y 8) = B at hT h0 ⊢
  have e0 : updI A.2.2 1 0 0 = x 9 0 := ho 0 (by omega)
  have eS : ∀ s, 0 ≤ s → s ≤ 3 → updI A.2.2 1 0 (7 + 2 * s) = y 5 s ∧ updI A.2.2 1 0 (8 + 2 * s) = y 6 s := fun s a b => by
    have c := u9 (r := A.2.2) (k := 1) (v := 0) (by decide) a
    have e := h10 s a b
    exact ⟨(c.1.trans (ho _ (by omega))).trans e.1, (c.2.trans (ho _ (by omega))).trans e.2⟩
  have b0 : ∀ k : Int, 0 ≤ k → k < 0 → 0 ≤ y 4 k ∧ y 4 k ≤ 255 := fun k a b => by omega
  rcases hT with ⟨c, e, p, q1, q2⟩ | ⟨c, e, p⟩
  · rw [if_pos c, if_pos c, if_pos p]
    refine ⟨e, ⟨(EQ.hd (by rw [q1.f4]; exact q1.1)).tr q1, q2⟩, ⟨e0.trans (h2.1.trans h0.symm), ?_⟩, fun z => h3 (h0.symm.trans z), ⟨h4, rfl⟩, ⟨⟨Int.le_refl _, (show (0 : Int) ≤ 120 by decide)⟩, b0⟩, h8, h9, eS, h11⟩
    show B.2.2 0 = 0 ∨ B.2.2 0 = 1
    rw [h0]; exact h2.2
  · rw [if_neg c, if_neg c, if_neg (by omega)]
    refine ⟨e, h1, ⟨e0.trans (h2.1.trans h0.symm), ?_⟩, fun z => h3 (h0.symm.trans z), ⟨h4, rfl⟩, ⟨⟨Int.le_refl _, (show (0 : Int) ≤ 120 by decide)⟩, b0⟩, h8, h9, eS, h11⟩
    show B.2.2 0 = 0 ∨ B.2.2 0 = 1
    rw [h0]; exact h2.2
theorem nth_out {b s : Int} (h : ¬ vSheet s) : nthR b s = -1000000001 := if_neg h
theorem whyW_out {b z s i : Int} (h : ¬ vSheet s) : whyW b z s i = -1000000001 := by unfold whyW; rw [nth_out h]; rfl
theorem whyC_out {b z c w s f t g n : Int} (h : ¬ (vSheet s ∧ vSheet t)) : whyC b z c w s f t g n = -1000000001 := if_pos h
/-- one sheet's numbers changed -/
theorem VSM_up (h : VSM y) {sh : Int} (hs : vSheet sh) {u : Int → Int} (ho : ∀ k, (k < 40 * sh ∨ 40 * sh + 40 ≤ k) → u k = y 7 k) (hi : ∀ k, 0 ≤ k → k < 40 → inL (u (40 * sh + k))) : VSM (setc y 7 u) := by
  intro s a b
  have q := h s a b
  by_cases e : s = sh
  · subst e; exact ⟨q.1, q.2.1, q.2.2.1, q.2.2.2.1, hi⟩
  · refine ⟨q.1, q.2.1, q.2.2.1, q.2.2.2.1, fun k c d => ?_⟩
    have z : u (40 * s + k) = y 7 (40 * s + k) := ho _ (by omega)
    show inL (u (40 * s + k))
    rw [z]
    exact q.2.2.2.2 k c d
theorem k_sheet (h : TWO x y) (sh q n : Int) : TWO (endX (if gSheet sh q n then setc (setc x 9 (updI (updI (x 9) (7 + 2 * sh) q) (8 + 2 * sh) (if q = 0 then 0 else n))) 5 (zerP (x 5) (40 * sh) (40 * sh + 40)) else x) (sheetR sh q n)) (endM (if gSheet sh q n then setc (setc (setc y 5 (updI (y 5) sh q)) 6 (updI (y 6) sh (if q = 0 then 0 else n))) 7 (zerP (y 7) (40 * sh) (40 * sh + 40)) else y) (sheetR sh q n)) := by
  refine TWO.fin ?_ _
  by_cases g : gSheet sh q n
  · rw [if_pos g, if_pos g]
    obtain ⟨h1, h2, h3, ⟨h4, h5⟩, ⟨h6, h7⟩, h8, h9, h10, h11⟩ := id h
    have e0 : ∀ k, k < 7 → updI (updI (x 9) (7 + 2 * sh) q) (8 + 2 * sh) (if q = 0 then 0 else n) k = x 9 k := fun k hk => by rw [updI_ne _ _ (by omega), updI_ne _ _ (by omega)]
    refine ⟨h1, ⟨(e0 0 (by decide)).trans h2.1, h2.2⟩, h3, ⟨h4, (e0 1 (by decide)).trans h5⟩, ⟨h6, h7⟩, h8, ?_, ?_, ?_⟩
    · show zerP (x 5) _ _ = zerP (y 7) _ _; rw [h9]
    · intro s a b
      have e := h10 s a b
      show updI (updI (x 9) (7 + 2 * sh) q) (8 + 2 * sh) (if q = 0 then 0 else n) (7 + 2 * s) = updI (y 5) sh q s ∧ updI (updI (x 9) (7 + 2 * sh) q) (8 + 2 * sh) (if q = 0 then 0 else n) (8 + 2 * s) = updI (y 6) sh (if q = 0 then 0 else n) s
      by_cases z : s = sh
      · subst z
        rw [updI_ne _ _ (by omega), updI_at, updI_at, updI_at, updI_at]
        exact ⟨rfl, rfl⟩
      · rw [updI_ne _ _ (by omega), updI_ne _ _ (by omega), updI_ne _ _ z, updI_ne _ _ (by omega), updI_ne _ _ (by omega), updI_ne _ _ z]
        exact e
    · intro s a b
      have w := h11 s a b
      show VS (updI (y 5) sh q s) (updI (y 6) sh (if q = 0 then 0 else n) s) (fun k => zerP (y 7) (40 * sh) (40 * sh + 40) (40 * s + k))
      by_cases z : s = sh
      · subst z
        rw [updI_at, updI_at]
        refine ⟨g.1.2, by omega, by omega, by omega, fun k c d => ?_⟩
        show inL (zerP (y 7) (40 * s) (40 * s + 40) (40 * s + k))
        unfold zerP
        rw [if_pos (by omega)]
        exact ⟨by decide, by decide⟩
      · rw [updI_ne _ _ z, updI_ne _ _ z]
        refine ⟨w.1, w.2.1, w.2.2.1, w.2.2.2.1, fun k c d => ?_⟩
        show inL (zerP (y 7) (40 * sh) (40 * sh + 40) (40 * s + k))
        unfold zerP
        rw [if_neg (by omega)]
        exact w.2.2.2.2 k c d
  · rw [if_neg g, if_neg g]; exact h
theorem k_write (h : TWO x y) {sh i v : Int} (hv : inL v) : (if whyW (x 9 (7 + 2 * sh)) (x 9 (8 + 2 * sh)) sh i ≠ 0 then whyW (x 9 (7 + 2 * sh)) (x 9 (8 + 2 * sh)) sh i else x 5 (40 * sh + i)) = (if whyW (y 5 sh) (y 6 sh) sh i ≠ 0 then whyW (y 5 sh) (y 6 sh) sh i else y 7 (40 * sh + i)) ∧ TWO (if whyW (x 9 (7 + 2 * sh)) (x 9 (8 + 2 * sh)) sh i ≠ 0 then setc x 4 (tallyP (x 4) (whyW (x 9 (7 + 2 * sh)) (x 9 (8 + 2 * sh)) sh i)) else setc x 5 (updI (x 5) (40 * sh + i) (cutP (x 9 (7 + 2 * sh)) v))) (if whyW (y 5 sh) (y 6 sh) sh i ≠ 0 then setc y 3 (tallyP (y 3) (whyW (y 5 sh) (y 6 sh) sh i)) else setc y 7 (updI (y 7) (40 * sh + i) (cutP (y 5 sh) v))) := by
  by_cases hs : vSheet sh
  · have e := h.sh sh hs.1 hs.2
    have q := h.vs sh hs.1 hs.2
    rw [e.1, e.2, h.xs]
    refine ⟨rfl, ?_⟩
    by_cases z : whyW (y 5 sh) (y 6 sh) sh i ≠ 0
    · rw [if_pos z, if_pos z]; exact h.tal _
    · rw [if_neg z, if_neg z]
      have hi : 0 ≤ i ∧ i < y 6 sh := by unfold whyW at z; omega
      have z6 := q.2.2.1
      refine ⟨h.1, h.2.1, h.2.2.1, h.2.2.2.1, h.2.2.2.2.1, h.x4, rfl, h.sh, VSM_up h.vs hs (fun k hk => updI_ne _ _ (by omega)) (fun k a b => ?_)⟩
      rw [updI_app]
      split
      · exact cut_in hv
      · exact q.2.2.2.2 k a b
  · rw [whyW_out hs, whyW_out hs, if_pos (by decide), if_pos (by decide), if_pos (by decide), if_pos (by decide)]
    exact ⟨rfl, h.tal _⟩
theorem k_copy (h : TWO x y) (sh f th g n : Int) : (if whyC (x 9 (7 + 2 * sh)) (x 9 (8 + 2 * sh)) (x 9 (7 + 2 * th)) (x 9 (8 + 2 * th)) sh f th g n ≠ 0 then whyC (x 9 (7 + 2 * sh)) (x 9 (8 + 2 * sh)) (x 9 (7 + 2 * th)) (x 9 (8 + 2 * th)) sh f th g n else n) = (if whyC (y 5 sh) (y 6 sh) (y 5 th) (y 6 th) sh f th g n ≠ 0 then whyC (y 5 sh) (y 6 sh) (y 5 th) (y 6 th) sh f th g n else n) ∧ TWO (endX (if whyC (x 9 (7 + 2 * sh)) (x 9 (8 + 2 * sh)) (x 9 (7 + 2 * th)) (x 9 (8 + 2 * th)) sh f th g n = 0 then setc x 5 (cpP (x 5) (40 * sh + f) (40 * th + g) n) else x) (if whyC (x 9 (7 + 2 * sh)) (x 9 (8 + 2 * sh)) (x 9 (7 + 2 * th)) (x 9 (8 + 2 * th)) sh f th g n ≠ 0 then whyC (x 9 (7 + 2 * sh)) (x 9 (8 + 2 * sh)) (x 9 (7 + 2 * th)) (x 9 (8 + 2 * th)) sh f th g n else n)) (endM (if whyC (y 5 sh) (y 6 sh) (y 5 th) (y 6 th) sh f th g n = 0 then setc y 7 (cpP (y 7) (40 * sh + f) (40 * th + g) n) else y) (if whyC (y 5 sh) (y 6 sh) (y 5 th) (y 6 th) sh f th g n ≠ 0 then whyC (y 5 sh) (y 6 sh) (y 5 th) (y 6 th) sh f th g n else n)) := by
  by_cases hs : vSheet sh ∧ vSheet th
  · have e := h.sh sh hs.1.1 hs.1.2
    have e2 := h.sh th hs.2.1 hs.2.2
    have q := h.vs sh hs.1.1 hs.1.2
    have q2 := h.vs th hs.2.1 hs.2.2
    rw [e.1, e.2, e2.1, e2.2, h.xs]
    refine ⟨rfl, TWO.fin ?_ _⟩
    by_cases z : whyC (y 5 sh) (y 6 sh) (y 5 th) (y 6 th) sh f th g n = 0
    · rw [if_pos z, if_pos z]
      have hi : 0 ≤ n ∧ 0 ≤ f ∧ 0 ≤ g ∧ n ≤ y 6 sh - f ∧ n ≤ y 6 th - g := by unfold whyC at z; omega
      have z6 := q.2.2.1
      have z62 := q2.2.2.1
      refine ⟨h.1, h.2.1, h.2.2.1, h.2.2.2.1, h.2.2.2.2.1, h.x4, rfl, h.sh, VSM_up h.vs hs.2 (fun k hk => ?_) (fun k a b => ?_)⟩
      · unfold cpP; rw [if_neg (by omega)]
      · unfold cpP
        split
        · have w := q.2.2.2.2 (f + (40 * th + k - (40 * th + g))) (by omega) (by omega)
          have w' : inL (y 7 (40 * sh + (f + (40 * th + k - (40 * th + g))))) := w
          rw [show 40 * sh + f + (40 * th + k - (40 * th + g)) = 40 * sh + (f + (40 * th + k - (40 * th + g))) by omega]
          exact w'
        · exact q2.2.2.2.2 k a b
    · rw [if_neg z, if_neg z]; exact h
  · rw [whyC_out hs, whyC_out hs]
    exact ⟨rfl, TWO.fin h _⟩
theorem EQ.lay {t u : Int → Int} (h : EQ t u) (w : Int → Int) (k : Nat) : EQ (layT w t k) (layT w u k) := by
  induction k with
  | zero => exact h
  | succ k ih =>
    simp only [layT]
    split
    · exact ih.up _ (by omega)
    · exact ih
theorem k_lays (h : TWO x y) (sh : Int) : (if nthR (x 9 (7 + 2 * sh)) sh ≠ 0 then nthR (x 9 (7 + 2 * sh)) sh else layC (shX x sh) (laysN (x 9 (8 + 2 * sh)))) = (if nthR (y 5 sh) sh ≠ 0 then nthR (y 5 sh) sh else layC (shM y sh) (laysN (y 6 sh))) ∧ TWO (endX (if nthR (x 9 (7 + 2 * sh)) sh = 0 then setc x 0 (layT (shX x sh) (x 0) (laysN (x 9 (8 + 2 * sh)))) else x) (if nthR (x 9 (7 + 2 * sh)) sh ≠ 0 then nthR (x 9 (7 + 2 * sh)) sh else layC (shX x sh) (laysN (x 9 (8 + 2 * sh))))) (endM (if nthR (y 5 sh) sh = 0 then setc y 0 (layT (shM y sh) (y 0) (laysN (y 6 sh))) else y) (if nthR (y 5 sh) sh ≠ 0 then nthR (y 5 sh) sh else layC (shM y sh) (laysN (y 6 sh)))) := by
  rw [h.shq]
  by_cases hs : vSheet sh
  · have e := h.sh sh hs.1 hs.2
    rw [e.1, e.2]
    refine ⟨rfl, TWO.fin ?_ _⟩
    by_cases z : nthR (y 5 sh) sh = 0
    · rw [if_pos z, if_pos z]
      exact h.town (h.e.lay _ _) (VT_lay h.v _ (by unfold laysN; omega))
    · rw [if_neg z, if_neg z]; exact h
  · rw [nth_out hs, nth_out hs]
    exact ⟨rfl, TWO.fin h _⟩
theorem book_eq {t u : Int → Int} (h : EQ t u) {d : Int} (hV : VT d u) (w : Int → Int) (a b k : Int) : bookP w a b t k = bookP w a b u k := by
  funext q
  unfold bookP
  rw [(h.days hV (q - a).toNat).lo (k := 1) (by decide) (by decide)]
theorem k_book (h : TWO x y) (sh : Int) (u9 : Int → Int) : (if nthR (x 9 (7 + 2 * sh)) sh ≠ 0 then nthR (x 9 (7 + 2 * sh)) sh else x 9 (8 + 2 * sh)) = (if nthR (y 5 sh) sh ≠ 0 then nthR (y 5 sh) sh else y 6 sh) ∧ TWO (setc (endX (if nthR (x 9 (7 + 2 * sh)) sh = 0 then setc x 5 (bookP (x 5) (40 * sh) (x 9 (7 + 2 * sh)) (x 0) (x 9 (8 + 2 * sh))) else x) (if nthR (x 9 (7 + 2 * sh)) sh ≠ 0 then nthR (x 9 (7 + 2 * sh)) sh else x 9 (8 + 2 * sh))) 1 u9) (endM (if nthR (y 5 sh) sh = 0 then setc (thinkM y) 7 (bookP (y 7) (40 * sh) (y 5 sh) (y 0) (y 6 sh)) else y) (if nthR (y 5 sh) sh ≠ 0 then nthR (y 5 sh) sh else y 6 sh)) := by
  by_cases hs : vSheet sh
  · have e := h.sh sh hs.1 hs.2
    have q := h.vs sh hs.1 hs.2
    rw [e.1, e.2, h.xs]
    refine ⟨rfl, TWO.tri (TWO.fin ?_ _) _⟩
    by_cases z : nthR (y 5 sh) sh = 0
    · rw [if_pos z, if_pos z, book_eq h.e h.v]
      refine ⟨h.1, h.2.1, h.2.2.1, h.2.2.2.1, h.2.2.2.2.1, h.x4, rfl, h.sh, VSM_up (y := thinkM y) h.vs hs (fun k hk => ?_) (fun k a b => ?_)⟩
      · have z6 := q.2.2.1
        unfold bookP
        rw [if_neg (by omega)]
        rfl
      · exact (VS_book (b := y 5 sh) (z := y 6 sh) (a := 40 * sh) (u := y 7) q h.v (y 6 sh)).2.2.2.2 k a b
    · rw [if_neg z, if_neg z]; exact h
  · rw [nth_out hs, nth_out hs]
    exact ⟨rfl, TWO.tri (TWO.fin h _) _⟩
theorem k_read (h : TWO x y) (sh f : Int) : readR (x 9 (7 + 2 * sh)) (x 9 (8 + 2 * sh)) (shX x sh) (x 0) sh f = readR (y 5 sh) (y 6 sh) (shM y sh) (y 0) sh f := by
  rw [h.shq, q_read h.e h.v]
  by_cases hs : vSheet sh
  · have e := h.sh sh hs.1 hs.2
    rw [e.1, e.2]
  · unfold readR
    rw [nth_out hs, nth_out hs, if_pos (by decide), if_pos (by decide)]
end REL2
