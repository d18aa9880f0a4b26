/-! what the Statement gives of the start -/
theorem m_ka_a : Cond.arrayOf (.static "NamedFountains" "KIND_ABOVE" "[I") .int ∈ flatC (Jvm.Cond.and given_1 narrow_1) := by decide +kernel
theorem m_ka_l : Cond.eq (.length (.static "NamedFountains" "KIND_ABOVE" "[I")) (.int (Int32.ofNat 6)) ∈ flatC (Jvm.Cond.and given_1 narrow_1) := by decide +kernel
theorem m_ka_e : ∀ j : Nat, j < 6 → Cond.eq (.elem (.static "NamedFountains" "KIND_ABOVE" "[I") (.int (Int32.ofNat j))) (.int (iI (ka_row.getD j 0))) ∈ flatC (Jvm.Cond.and given_1 narrow_1) := by decide +kernel
theorem m_ka_s : Cond.laysStatic "NamedFountains" "KIND_ABOVE" "[I" ∈ lw_tbl := List.mem_append_right _ (List.mem_of_getElem? (i := 309) (by decide +kernel))
theorem m_nm_a : Cond.arrayOf (.static "NamedFountainsModel" "NAMES" "[I") .int ∈ flatC (Jvm.Cond.and given_1 narrow_1) := by decide +kernel
theorem m_nm_l : Cond.eq (.length (.static "NamedFountainsModel" "NAMES" "[I")) (.int (Int32.ofNat 91)) ∈ flatC (Jvm.Cond.and given_1 narrow_1) := by decide +kernel
theorem m_nm_e : ∀ j : Nat, j < 91 → Cond.eq (.elem (.static "NamedFountainsModel" "NAMES" "[I") (.int (Int32.ofNat j))) (.int (iI (nm_row.getD j 0))) ∈ flatC (Jvm.Cond.and given_1 narrow_1) := by decide +kernel
theorem m_nm_s : Cond.laysStatic "NamedFountainsModel" "NAMES" "[I" ∈ lw_tbl := List.mem_append_right _ (List.mem_of_getElem? (i := 967) (by decide +kernel))
theorem m_cs : Cond.eq (.static "java/lang/String" "COMPACT_STRINGS" "Z") (.int 1) ∈ flatC (Jvm.Cond.and given_1 narrow_1) := by decide +kernel
theorem m_cs_s : Cond.laysStatic "java/lang/String" "COMPACT_STRINGS" "Z" ∈ lw_tbl := List.mem_append_right _ (List.mem_of_getElem? (i := 504) (by decide +kernel))
theorem m_fo : Cond.isRef (.static "jdk/internal/util/Preconditions" "SIOOBE_FORMATTER" "Ljava/util/function/BiFunction;") ∈ flatC (Jvm.Cond.and given_1 narrow_1) := by decide +kernel
theorem m_fo_s : Cond.laysStatic "jdk/internal/util/Preconditions" "SIOOBE_FORMATTER" "Ljava/util/function/BiFunction;" ∈ lw_tbl := List.mem_append_right _ (List.mem_of_getElem? (i := 520) (by decide +kernel))
def swT (i : Nat) : Term := .string RX3 (sw_pool.getD i 0)
theorem m_sx : ∀ i : Nat, i < 13 → Cond.exactly (swT i) "java/lang/String" ∈ flatC (Jvm.Cond.and given_1 narrow_1) := by decide +kernel
theorem m_sc : ∀ i : Nat, i < 13 → Cond.eq (.field (swT i) "java/lang/String" "coder" "B") (.int 0) ∈ flatC (Jvm.Cond.and given_1 narrow_1) := by decide +kernel
theorem m_sa : ∀ i : Nat, i < 13 → Cond.arrayOf (.field (swT i) "java/lang/String" "value" "[B") .byte ∈ flatC (Jvm.Cond.and given_1 narrow_1) := by decide +kernel
theorem m_sl : ∀ i : Nat, i < 13 → Cond.eq (.length (.field (swT i) "java/lang/String" "value" "[B")) (.int (Int32.ofNat (sw_len.getD i 0))) ∈ flatC (Jvm.Cond.and given_1 narrow_1) := by decide +kernel
theorem m_se : ∀ i : Nat, i < 13 → ∀ j : Nat, j < sw_len.getD i 0 → Cond.eq (.elem (.field (swT i) "java/lang/String" "value" "[B") (.int (Int32.ofNat j))) (.int ((sw_byt.getD i []).getD j 0)) ∈ flatC (Jvm.Cond.and given_1 narrow_1) := by decide +kernel
def snP (i j : Nat) : Prop := Cond.not (Cond.eq (swT i) (swT j)) ∈ flatC (Jvm.Cond.and given_1 narrow_1)
theorem m_sn0 : snP 0 1 ∧ snP 0 2 ∧ snP 0 3 ∧ snP 0 4 ∧ snP 0 5 ∧ snP 0 6 ∧ snP 0 7 ∧ snP 0 8 ∧ snP 0 9 ∧ snP 0 10 ∧ snP 0 11 ∧ snP 0 12 := ⟨List.mem_of_getElem? (i := 142) (by decide +kernel), List.mem_of_getElem? (i := 151) (by decide +kernel), List.mem_of_getElem? (i := 162) (by decide +kernel), List.mem_of_getElem? (i := 175) (by decide +kernel), List.mem_of_getElem? (i := 186) (by decide +kernel), List.mem_of_getElem? (i := 199) (by decide +kernel), List.mem_of_getElem? (i := 214) (by decide +kernel), List.mem_of_getElem? (i := 228) (by decide +kernel), List.mem_of_getElem? (i := 244) (by decide +kernel), List.mem_of_getElem? (i := 261) (by decide +kernel), List.mem_of_getElem? (i := 279) (by decide +kernel), List.mem_of_getElem? (i := 298) (by decide +kernel)⟩
theorem m_sn1 : snP 1 2 ∧ snP 1 3 ∧ snP 1 4 ∧ snP 1 5 ∧ snP 1 6 ∧ snP 1 7 ∧ snP 1 8 ∧ snP 1 9 ∧ snP 1 10 ∧ snP 1 11 ∧ snP 1 12 := ⟨List.mem_of_getElem? (i := 152) (by decide +kernel), List.mem_of_getElem? (i := 163) (by decide +kernel), List.mem_of_getElem? (i := 176) (by decide +kernel), List.mem_of_getElem? (i := 187) (by decide +kernel), List.mem_of_getElem? (i := 200) (by decide +kernel), List.mem_of_getElem? (i := 215) (by decide +kernel), List.mem_of_getElem? (i := 229) (by decide +kernel), List.mem_of_getElem? (i := 245) (by decide +kernel), List.mem_of_getElem? (i := 262) (by decide +kernel), List.mem_of_getElem? (i := 280) (by decide +kernel), List.mem_of_getElem? (i := 299) (by decide +kernel)⟩
theorem m_sn2 : snP 2 3 ∧ snP 2 4 ∧ snP 2 5 ∧ snP 2 6 ∧ snP 2 7 ∧ snP 2 8 ∧ snP 2 9 ∧ snP 2 10 ∧ snP 2 11 ∧ snP 2 12 := ⟨List.mem_of_getElem? (i := 164) (by decide +kernel), List.mem_of_getElem? (i := 177) (by decide +kernel), List.mem_of_getElem? (i := 188) (by decide +kernel), List.mem_of_getElem? (i := 201) (by decide +kernel), List.mem_of_getElem? (i := 216) (by decide +kernel), List.mem_of_getElem? (i := 230) (by decide +kernel), List.mem_of_getElem? (i := 246) (by decide +kernel), List.mem_of_getElem? (i := 263) (by decide +kernel), List.mem_of_getElem? (i := 281) (by decide +kernel), List.mem_of_getElem? (i := 300) (by decide +kernel)⟩
theorem m_sn3 : snP 3 4 ∧ snP 3 5 ∧ snP 3 6 ∧ snP 3 7 ∧ snP 3 8 ∧ snP 3 9 ∧ snP 3 10 ∧ snP 3 11 ∧ snP 3 12 := ⟨List.mem_of_getElem? (i := 178) (by decide +kernel), List.mem_of_getElem? (i := 189) (by decide +kernel), List.mem_of_getElem? (i := 202) (by decide +kernel), List.mem_of_getElem? (i := 217) (by decide +kernel), List.mem_of_getElem? (i := 231) (by decide +kernel), List.mem_of_getElem? (i := 247) (by decide +kernel), List.mem_of_getElem? (i := 264) (by decide +kernel), List.mem_of_getElem? (i := 282) (by decide +kernel), List.mem_of_getElem? (i := 301) (by decide +kernel)⟩
theorem m_sn4 : snP 4 5 ∧ snP 4 6 ∧ snP 4 7 ∧ snP 4 8 ∧ snP 4 9 ∧ snP 4 10 ∧ snP 4 11 ∧ snP 4 12 := ⟨List.mem_of_getElem? (i := 190) (by decide +kernel), List.mem_of_getElem? (i := 203) (by decide +kernel), List.mem_of_getElem? (i := 218) (by decide +kernel), List.mem_of_getElem? (i := 232) (by decide +kernel), List.mem_of_getElem? (i := 248) (by decide +kernel), List.mem_of_getElem? (i := 265) (by decide +kernel), List.mem_of_getElem? (i := 283) (by decide +kernel), List.mem_of_getElem? (i := 302) (by decide +kernel)⟩
theorem m_sn5 : snP 5 6 ∧ snP 5 7 ∧ snP 5 8 ∧ snP 5 9 ∧ snP 5 10 ∧ snP 5 11 ∧ snP 5 12 := ⟨List.mem_of_getElem? (i := 204) (by decide +kernel), List.mem_of_getElem? (i := 219) (by decide +kernel), List.mem_of_getElem? (i := 233) (by decide +kernel), List.mem_of_getElem? (i := 249) (by decide +kernel), List.mem_of_getElem? (i := 266) (by decide +kernel), List.mem_of_getElem? (i := 284) (by decide +kernel), List.mem_of_getElem? (i := 303) (by decide +kernel)⟩
theorem m_sn6 : snP 6 7 ∧ snP 6 8 ∧ snP 6 9 ∧ snP 6 10 ∧ snP 6 11 ∧ snP 6 12 := ⟨List.mem_of_getElem? (i := 220) (by decide +kernel), List.mem_of_getElem? (i := 234) (by decide +kernel), List.mem_of_getElem? (i := 250) (by decide +kernel), List.mem_of_getElem? (i := 267) (by decide +kernel), List.mem_of_getElem? (i := 285) (by decide +kernel), List.mem_of_getElem? (i := 304) (by decide +kernel)⟩
theorem m_sn7 : snP 7 8 ∧ snP 7 9 ∧ snP 7 10 ∧ snP 7 11 ∧ snP 7 12 := ⟨List.mem_of_getElem? (i := 235) (by decide +kernel), List.mem_of_getElem? (i := 251) (by decide +kernel), List.mem_of_getElem? (i := 268) (by decide +kernel), List.mem_of_getElem? (i := 286) (by decide +kernel), List.mem_of_getElem? (i := 305) (by decide +kernel)⟩
theorem m_sn8 : snP 8 9 ∧ snP 8 10 ∧ snP 8 11 ∧ snP 8 12 := ⟨List.mem_of_getElem? (i := 252) (by decide +kernel), List.mem_of_getElem? (i := 269) (by decide +kernel), List.mem_of_getElem? (i := 287) (by decide +kernel), List.mem_of_getElem? (i := 306) (by decide +kernel)⟩
theorem m_sn9 : snP 9 10 ∧ snP 9 11 ∧ snP 9 12 := ⟨List.mem_of_getElem? (i := 270) (by decide +kernel), List.mem_of_getElem? (i := 288) (by decide +kernel), List.mem_of_getElem? (i := 307) (by decide +kernel)⟩
theorem m_sn10 : snP 10 11 ∧ snP 10 12 := ⟨List.mem_of_getElem? (i := 289) (by decide +kernel), List.mem_of_getElem? (i := 308) (by decide +kernel)⟩
theorem m_sn11 : snP 11 12 := List.mem_of_getElem? (i := 309) (by decide +kernel)
theorem m_sl' : ∀ i j : Nat, i < j → j < 13 → snP i j := by
  intro i j hij hj
  rcases (show i = 0 ∨ i = 1 ∨ i = 2 ∨ i = 3 ∨ i = 4 ∨ i = 5 ∨ i = 6 ∨ i = 7 ∨ i = 8 ∨ i = 9 ∨ i = 10 ∨ i = 11 by omega) with rfl | rfl | rfl | rfl | rfl | rfl | rfl | rfl | rfl | rfl | rfl | rfl
  · rcases (show j = 1 ∨ j = 2 ∨ j = 3 ∨ j = 4 ∨ j = 5 ∨ j = 6 ∨ j = 7 ∨ j = 8 ∨ j = 9 ∨ j = 10 ∨ j = 11 ∨ j = 12 by omega) with rfl | rfl | rfl | rfl | rfl | rfl | rfl | rfl | rfl | rfl | rfl | rfl
    · exact m_sn0.1
    · exact m_sn0.2.1
    · exact m_sn0.2.2.1
    · exact m_sn0.2.2.2.1
    · exact m_sn0.2.2.2.2.1
    · exact m_sn0.2.2.2.2.2.1
    · exact m_sn0.2.2.2.2.2.2.1
    · exact m_sn0.2.2.2.2.2.2.2.1
    · exact m_sn0.2.2.2.2.2.2.2.2.1
    · exact m_sn0.2.2.2.2.2.2.2.2.2.1
    · exact m_sn0.2.2.2.2.2.2.2.2.2.2.1
    · exact m_sn0.2.2.2.2.2.2.2.2.2.2.2
  · rcases (show j = 2 ∨ j = 3 ∨ j = 4 ∨ j = 5 ∨ j = 6 ∨ j = 7 ∨ j = 8 ∨ j = 9 ∨ j = 10 ∨ j = 11 ∨ j = 12 by omega) with rfl | rfl | rfl | rfl | rfl | rfl | rfl | rfl | rfl | rfl | rfl
    · exact m_sn1.1
    · exact m_sn1.2.1
    · exact m_sn1.2.2.1
    · exact m_sn1.2.2.2.1
    · exact m_sn1.2.2.2.2.1
    · exact m_sn1.2.2.2.2.2.1
    · exact m_sn1.2.2.2.2.2.2.1
    · exact m_sn1.2.2.2.2.2.2.2.1
    · exact m_sn1.2.2.2.2.2.2.2.2.1
    · exact m_sn1.2.2.2.2.2.2.2.2.2.1
    · exact m_sn1.2.2.2.2.2.2.2.2.2.2
  · rcases (show j = 3 ∨ j = 4 ∨ j = 5 ∨ j = 6 ∨ j = 7 ∨ j = 8 ∨ j = 9 ∨ j = 10 ∨ j = 11 ∨ j = 12 by omega) with rfl | rfl | rfl | rfl | rfl | rfl | rfl | rfl | rfl | rfl
    · exact m_sn2.1
    · exact m_sn2.2.1
    · exact m_sn2.2.2.1
    · exact m_sn2.2.2.2.1
    · exact m_sn2.2.2.2.2.1
    · exact m_sn2.2.2.2.2.2.1
    · exact m_sn2.2.2.2.2.2.2.1
    · exact m_sn2.2.2.2.2.2.2.2.1
    · exact m_sn2.2.2.2.2.2.2.2.2.1
    · exact m_sn2.2.2.2.2.2.2.2.2.2
  · rcases (show j = 4 ∨ j = 5 ∨ j = 6 ∨ j = 7 ∨ j = 8 ∨ j = 9 ∨ j = 10 ∨ j = 11 ∨ j = 12 by omega) with rfl | rfl | rfl | rfl | rfl | rfl | rfl | rfl | rfl
    · exact m_sn3.1
    · exact m_sn3.2.1
    · exact m_sn3.2.2.1
    · exact m_sn3.2.2.2.1
    · exact m_sn3.2.2.2.2.1
    · exact m_sn3.2.2.2.2.2.1
    · exact m_sn3.2.2.2.2.2.2.1
    · exact m_sn3.2.2.2.2.2.2.2.1
    · exact m_sn3.2.2.2.2.2.2.2.2
  · rcases (show j = 5 ∨ j = 6 ∨ j = 7 ∨ j = 8 ∨ j = 9 ∨ j = 10 ∨ j = 11 ∨ j = 12 by omega) with rfl | rfl | rfl | rfl | rfl | rfl | rfl | rfl
    · exact m_sn4.1
    · exact m_sn4.2.1
    · exact m_sn4.2.2.1
    · exact m_sn4.2.2.2.1
    · exact m_sn4.2.2.2.2.1
    · exact m_sn4.2.2.2.2.2.1
    · exact m_sn4.2.2.2.2.2.2.1
    · exact m_sn4.2.2.2.2.2.2.2
  · rcases (show j = 6 ∨ j = 7 ∨ j = 8 ∨ j = 9 ∨ j = 10 ∨ j = 11 ∨ j = 12 by omega) with rfl | rfl | rfl | rfl | rfl | rfl | rfl
    · exact m_sn5.1
    · exact m_sn5.2.1
    · exact m_sn5.2.2.1
    · exact m_sn5.2.2.2.1
    · exact m_sn5.2.2.2.2.1
    · exact m_sn5.2.2.2.2.2.1
    · exact m_sn5.2.2.2.2.2.2
  · rcases (show j = 7 ∨ j = 8 ∨ j = 9 ∨ j = 10 ∨ j = 11 ∨ j = 12 by omega) with rfl | rfl | rfl | rfl | rfl | rfl
    · exact m_sn6.1
    · exact m_sn6.2.1
    · exact m_sn6.2.2.1
    · exact m_sn6.2.2.2.1
    · exact m_sn6.2.2.2.2.1
    · exact m_sn6.2.2.2.2.2
  · rcases (show j = 8 ∨ j = 9 ∨ j = 10 ∨ j = 11 ∨ j = 12 by omega) with rfl | rfl | rfl | rfl | rfl
    · exact m_sn7.1
    · exact m_sn7.2.1
    · exact m_sn7.2.2.1
    · exact m_sn7.2.2.2.1
    · exact m_sn7.2.2.2.2
  · rcases (show j = 9 ∨ j = 10 ∨ j = 11 ∨ j = 12 by omega) with rfl | rfl | rfl | rfl
    · exact m_sn8.1
    · exact m_sn8.2.1
    · exact m_sn8.2.2.1
    · exact m_sn8.2.2.2
  · rcases (show j = 10 ∨ j = 11 ∨ j = 12 by omega) with rfl | rfl | rfl
    · exact m_sn9.1
    · exact m_sn9.2.1
    · exact m_sn9.2.2
  · rcases (show j = 11 ∨ j = 12 by omega) with rfl | rfl
    · exact m_sn10.1
    · exact m_sn10.2
  · rw [show j = 12 by omega]; exact m_sn11
theorem m_sn : ∀ i : Nat, i < 13 → ∀ j : Nat, j < 13 → i ≠ j → Cond.not (Cond.eq (swT i) (swT j)) ∈ flatC (Jvm.Cond.and given_1 narrow_1) ∨ Cond.not (Cond.eq (swT j) (swT i)) ∈ flatC (Jvm.Cond.and given_1 narrow_1) := fun i hi j hj hij => by
  rcases (show i < j ∨ j < i by omega) with h | h
  · exact Or.inl (m_sl' i j h hj)
  · exact Or.inr (m_sl' j i h hi)
theorem m_sr : ∀ i : Nat, i < 13 → Cond.stringRef RX3 (sw_pool.getD i 0) (sw_text.getD i "") ∈ tables_1 := by decide +kernel
theorem sl_31 : ∀ i : Nat, i < 13 → sw_len.getD i 0 < 2 ^ 31 := by decide +kernel
theorem tb_in {w : Cond} (h : w ∈ TB) : w ∈ lw_tbl := (List.mem_filter.mp h).1
/-- the words of the text, at their places -/
theorem SW_of {s : State} {ar : Array Value} {G : GT} (hts : ∀ w ∈ lw_tbl, w.before ar s = true) (hs : ∀ c ∈ flatC (Jvm.Cond.and given_1 narrow_1), c.before ar s = true) : ∃ ad : Nat → Nat, ∀ G' : GT, G'.2.2 = ad → SW G' (fun q => s.heap.size ≤ q) s s.heap := by
  have hA : ∀ a : Nat, a < s.heap.size → ¬ (fun q : Nat => s.heap.size ≤ q) a := fun a h => Nat.not_le.mpr h
  obtain ⟨t0, ht0, hT0⟩ := va_Tof (N := 6) (f := fun j => vI (ka_row.getD j 0)) (by decide) (hs _ m_ka_a) (va_eqt (hs _ m_ka_l)) (fun j hj => va_eqt (hs _ (m_ka_e j hj))) hA
  obtain ⟨t1, ht1, hT1⟩ := va_Tof (N := 91) (f := fun j => vI (nm_row.getD j 0)) (by decide) (hs _ m_nm_a) (va_eqt (hs _ m_nm_l)) (fun j hj => va_eqt (hs _ (m_nm_e j hj))) hA
  have hZ0 := va_Zof (hts _ m_ka_s) (hts _ (tb_in wz_X5)) ht0 hA
  have hZ1 := va_Zof (hts _ m_nm_s) (hts _ (tb_in wz_X6)) ht1 hA
  have hZ2 := va_Zof (hts _ m_cs_s) (hts _ (tb_in wz_J0)) (va_eqt (hs _ m_cs)) hA
  have hZ3 := va_Zqof (hts _ m_fo_s) (hts _ (tb_in wz_J3)) (hs _ m_fo) hA
  obtain ⟨adK, adV, hS, hE⟩ := vk_Sof (N := 13) (tm := swT) (len := sw_len) (byt := sw_byt) sl_31 (fun i hi => hs _ (m_sx i hi)) (fun i hi => hs _ (m_sc i hi)) (fun i hi => hs _ (m_sa i hi)) (fun i hi => hs _ (m_sl i hi)) (fun i hi j hj => hs _ (m_se i hi j hj)) (fun i j hi hj hij => (m_sn i hi j hj hij).elim (fun h => Or.inl (hs _ h)) (fun h => Or.inr (hs _ h))) hA
  refine ⟨fun k => if k = 0 then t0 else if k = 1 then t1 else if k < 20 then adK (k - 2) else adV (k - 20), fun G' hG => ?_⟩
  have e0 : G'.2.2 0 = t0 := by rw [hG]; rfl
  have e1 : G'.2.2 1 = t1 := by rw [hG]; rfl
  have eK : ∀ i : Nat, i < 13 → G'.2.2 (2 + i) = adK i := fun i hi => by
    rw [hG]
    show (if 2 + i = 0 then t0 else if 2 + i = 1 then t1 else if 2 + i < 20 then adK (2 + i - 2) else adV (2 + i - 20)) = adK i
    rw [if_neg (by omega), if_neg (by omega), if_pos (by omega), Nat.add_sub_cancel_left]
  have eV : ∀ i : Nat, i < 13 → G'.2.2 (20 + i) = adV i := fun i hi => by
    rw [hG]
    show (if 20 + i = 0 then t0 else if 20 + i = 1 then t1 else if 20 + i < 20 then adK (20 + i - 2) else adV (20 + i - 20)) = adV i
    rw [if_neg (by omega), if_neg (by omega), if_neg (by omega), Nat.add_sub_cancel_left]
  refine ⟨by rw [e0]; exact hZ0, by rw [e0]; exact hT0, by rw [e1]; exact hZ1, by rw [e1]; exact hT1, ⟨fun i hi => ?_, fun i j hi hj e => ?_⟩, hZ2, hZ3, fun i hi => ?_⟩
  · have q := hS.1 i hi
    rw [← eK i hi, ← eV i hi] at q
    exact q
  · have e' : G'.2.2 (2 + i) = G'.2.2 (2 + j) := e
    rw [eK i hi, eK j hj] at e'
    exact hS.2 i j hi hj e'
  · rw [eK i hi]
    exact vk_R.of (hts _ (List.mem_append_right _ (m_sr i hi))) (hE i hi)
theorem VT_ini : VT 99999 iniT := by
  refine ⟨⟨by decide, by decide⟩, ⟨by decide, by decide⟩, ⟨by decide, by decide⟩, ⟨by decide, by decide⟩, ⟨by decide, by decide⟩, fun k a b => ?_, fun k a b => ?_, fun i a b => ?_⟩
  · unfold iniT; rw [if_neg (by omega), if_neg (by omega), if_neg (by omega), if_pos (by omega)]; omega
  · unfold iniT; rw [if_neg (by omega), if_neg (by omega), if_neg (by omega), if_neg (by omega)]; omega
  · have b' : i < 0 := b
    omega
theorem ini_two : TWO iniX iniM := by
  refine ⟨⟨EQ.rf (by decide), VT_ini⟩, ⟨rfl, Or.inl rfl⟩, fun z => absurd (show (0 : Int) = 1 from z) (by decide), ⟨rfl, rfl⟩, ⟨⟨(show (0 : Int) ≤ 0 by decide), (show (0 : Int) ≤ 120 by decide)⟩, fun k a b => ?_⟩, rfl, rfl, fun s a b => ?_, fun s a b => ?_⟩
  · have b' : k < 0 := b
    omega
  · show (if 7 + 2 * s = 2 then (3 : Int) else 0) = 0 ∧ (if 8 + 2 * s = 2 then (3 : Int) else 0) = 0
    rw [if_neg (by omega), if_neg (by omega)]
    exact ⟨rfl, rfl⟩
  · exact ⟨Or.inl rfl, Int.le_refl _, (show (0 : Int) ≤ 40 by decide), fun _ => rfl, fun k _ _ => ⟨(show (-9223372036854775808 : Int) ≤ 0 by decide), (show (0 : Int) ≤ 9223372036854775807 by decide)⟩⟩
