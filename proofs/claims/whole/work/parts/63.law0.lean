/-! THE CLAIM OUT OF ONE WALK OF THE LAW'S BODY. Your part is whole_start (and what it stands on); all else here is the same for every law, but numbers. -/
def R_law : String := "NamedFountainsLaw"
def lw_P (b : Addr) (xs : List Int32) (args : Array Value) (s : State) : Prop := args = #[.ref b] ∧ s.IntsAt b xs ∧ xs.length ≤ 3072 ∧ (Jvm.Cond.and given_1 narrow_1).before args s = true
def lw_Q (_ : Array Value) (s : State) (o : Outcome) (t : State) : Prop := o = .returned (some (.int 1)) ∧ Framed s o t [] 600000 7302249
def lw_Z (below : List Frame) (a : Array Value) (s : State) : State → Prop := fun t => ∃ o, t.status = .running ∧ Ended t below o ∧ lw_Q a s o t
/-- the law's own end, with 1 on the stack, nothing written that was there before, its room as the claim has it -/
theorem lw_ret {p : Program} {l : Launch} {e : Env} {s : State} {m : MethodId} {below : List Frame} {meth : Method} {c : Code} {b : Nat} (hx : p.tables.exec = Jvm.exec) (hb : c.code = code) (hr : meth.sig.returnType = ret) (hlocks : meth.locks = false) {pc : Nat} {H : Heap} {ls : Array Slot} (hdg : decode code pc = .ok (.ireturn, 1)) : W p l e room_1 s m #[Value.ref b] below meth c H [] 600000 7302249 (lw_Z below #[Value.ref b] s) (F0 m pc ls [.int 1]) := by
  intro T hT X
  obtain ⟨fs, hret, hrun, hended, hW, hframe⟩ := X.leave (v := some (.int 1)) (hlocks := hlocks) (fun h => by rw [hr] at h; cases h)
  have hmeth' : T.vm.method? m = some meth := X.method'
  refine ⟨T.setFrames fs, ?_, .returned (some (.int 1)), hrun, hended, rfl, ⟨_, rfl⟩, hW, hframe⟩
  jvm_step X.here [X.here.top, hx, hb, hdg, hmeth', hr, ret, narrow_b1]
  (try refine ⟨rfl, ?_⟩); (try refine ⟨rfl, ?_⟩)
  first | (intro acts; rw [hret _ acts rfl rfl rfl]) | rw [hret _ _ rfl rfl rfl]
  exact Steps.refl _
/-- what holds at the law's entry: the machine, the code, the tables' words (any of lw_tbl by 'hts w (by decide +kernel)'), the script of L ints xs at the cell b, what the Statement gives of the start (any of its parts by flat_of_before) -/
def lw_At (p : Program) (s : State) (m : MethodId) (meth : Method) (c : Code) (b L : Nat) (xs : Nat → Int32) : Prop :=
  p.tables.exec = Jvm.exec ∧ c.code = code ∧ meth.sig.returnType = ret ∧ c.maxLocals = 4 ∧ s.vm.findClass R_law = some m.cls ∧ (∀ w ∈ lw_tbl, w.before #[Value.ref b] s = true) ∧ va_X b L xs s s.heap ∧ b < s.heap.size ∧ meth.locks = false ∧ (Jvm.Cond.and given_1 narrow_1).before #[Value.ref b] s = true

/-! rows of the law: its script, equal answers, its end -/
def sc (xs : Nat → Int32) (k : Int) : Int := (xs k.toNat).toInt
theorem sc_inR (xs : Nat → Int32) (k : Int) : inR (sc xs k) := iI_inR _
section JXL
variable {p : Program} {l : Launch} {e : Env} {R : Room} {s : State} {m : MethodId} {args : Array Value} {below : List Frame} {meth : Method} {c : Code} {nL : Nat} {G : GT} {A : Nat → Prop} {kc ks : Nat} {Q : State → Prop} {ws : va_W} {pc : Nat} {lv : List (Nat × Value)} {st : List Value} {cc : ByteArray} {own : String}
theorem jx_sld (E : CT p s m args meth c nL G A cc own) {b0 L : Nat} {xs : Nat → Int32} (hX : va_X b0 L xs s s.heap) (hbl : b0 < s.heap.size) (hbA : ¬ A b0) {i : Int} (hd : decode cc pc = .ok (.iaload, 1)) (k : JX p l e R s m args below meth c nL G A kc ks Q ws (pc + 1) lv (vI (sc xs i) :: st)) (h0 : 0 ≤ i := by omega) (h1 : i < L := by omega) (hL : L ≤ 3072 := by omega) : JX p l e R s m args below meth c nL G A kc ks Q ws pc lv (vI i :: .ref b0 :: st) := fun hD H locs ls hP hS hl =>
  va_sld E.1 E.2.1 hX hbl hbA hS (iI_in h0 h1 (by omega)) hd (by rw [iI_cl h0 (by omega), iI_of (xs i.toNat)]; exact k hD H locs ls hP hS hl)
theorem jx_slenS (E : CT p s m args meth c nL G A cc own) {b0 L : Nat} {xs : Nat → Int32} (hX : va_X b0 L xs s s.heap) (hbl : b0 < s.heap.size) (hbA : ¬ A b0) (hd : decode cc pc = .ok (.arraylength, 1)) (k : JX p l e R s m args below meth c nL G A kc ks Q ws (pc + 1) lv (vI (L : Int) :: st)) : JX p l e R s m args below meth c nL G A kc ks Q ws pc lv (.ref b0 :: st) := fun hD H locs ls hP hS hl =>
  va_slen E.1 E.2.1 hX hbl hbA hS hd (by rw [← Int32.ofInt_eq_ofNat]; exact k hD H locs ls hP hS hl)
theorem jx_same (E : CT p s m args meth c nL G A cc own) {x y off : Int} {tgt : Nat} (h : x = y) (hd : decode cc pc = .ok (.if_icmp .eq off, 3)) (ht : (pc : Int) + off = (tgt : Int)) (k : JX p l e R s m args below meth c nL G A kc ks Q ws tgt lv st) : JX p l e R s m args below meth c nL G A kc ks Q ws pc lv (vI y :: vI x :: st) := fun hD H locs ls hP hS hl => by
  subst h
  exact lv_icmp_eq E.1 E.2.1 hd ht (fun _ => k hD H locs ls hP hS hl) (fun z => absurd rfl z)
theorem jx_lshl (E : CT p s m args meth c nL G A cc own) {x y : Int} (hd : decode cc pc = .ok (.lshl, 1)) (k : JX p l e R s m args below meth c nL G A kc ks Q ws (pc + 1) lv (vL (lI x <<< ((iI y).toInt64 &&& 63)).toInt :: st)) : JX p l e R s m args below meth c nL G A kc ks Q ws pc lv (vI y :: vL x :: st) := fun hD H locs ls hP hS hl => lv_lshl E.1 E.2.1 hd (lI_of _) (k hD H locs ls hP hS hl)
theorem jx_land (E : CT p s m args meth c nL G A cc own) {x y : Int} (hd : decode cc pc = .ok (.land, 1)) (k : JX p l e R s m args below meth c nL G A kc ks Q ws (pc + 1) lv (vL (lI x &&& lI y).toInt :: st)) : JX p l e R s m args below meth c nL G A kc ks Q ws pc lv (vL y :: vL x :: st) := fun hD H locs ls hP hS hl => lv_land E.1 E.2.1 hd (by rw [lI_of (lI x &&& lI y)]; exact k hD H locs ls hP hS hl)
theorem jx_lor (E : CT p s m args meth c nL G A cc own) {x y : Int} (hd : decode cc pc = .ok (.lor, 1)) (k : JX p l e R s m args below meth c nL G A kc ks Q ws (pc + 1) lv (vL (lI x ||| lI y).toInt :: st)) : JX p l e R s m args below meth c nL G A kc ks Q ws pc lv (vL y :: vL x :: st) := fun hD H locs ls hP hS hl => lv_lor E.1 E.2.1 hd (by rw [lI_of (lI x ||| lI y)]; exact k hD H locs ls hP hS hl)
end JXL
/-- the law's end -/
theorem jx_end {p : Program} {l : Launch} {e : Env} {s : State} {m : MethodId} {below : List Frame} {meth : Method} {c : Code} {G : GT} {ws : va_W} {pc : Nat} {lv : List (Nat × Value)} {b0 : Nat} (hx : p.tables.exec = Jvm.exec) (hb : c.code = code) (hr : meth.sig.returnType = ret) (hlocks : meth.locks = false) (hd : decode code pc = .ok (.ireturn, 1)) : JX p l e room_1 s m #[Value.ref b0] below meth c 4 G (fun q => s.heap.size ≤ q) 59 1028 (lw_Z below #[Value.ref b0] s) ws pc lv [vI 1] := fun hD H locs ls hP hS hl =>
  va_forget (fun q hq => hS.2.2 q hq) (W.widen (k := 600000) (n := 7302249) (by decide) (by decide) (lw_ret hx hb hr hlocks hd))
theorem k_same {x y : MS} {r1 r2 : Int} (h : TWO x y) (e : r1 = r2) : TWO (endX x r1) (endM y r2) := by subst e; exact h.fin _
theorem k_think {x y : MS} {r1 r2 : Int} (h : TWO x y) (e : r1 = r2) (P : Prop) [Decidable P] (u : Int → Int) : TWO (setc (endX x r1) 1 u) (endM (if P then thinkM y else y) r2) := by subst e; exact TWO.tri (TWO.fin (h.thi P) _) u
theorem k_think0 {x y : MS} {r1 r2 : Int} (h : TWO x y) (e : r1 = r2) (u : Int → Int) : TWO (setc (endX x r1) 1 u) (endM (thinkM y) r2) := by subst e; exact TWO.tri (TWO.fin h.thk _) u
theorem wr_inL {x y : MS} (h : TWO x y) (sh i : Int) : inL (if whyW (y 5 sh) (y 6 sh) sh i ≠ 0 then whyW (y 5 sh) (y 6 sh) sh i else y 7 (40 * sh + i)) := by
  by_cases z : whyW (y 5 sh) (y 6 sh) sh i ≠ 0
  · rw [if_pos z]; unfold inL whyW nthR; omega
  · rw [if_neg z]
    have hs : vSheet sh ∧ 0 ≤ i ∧ i < y 6 sh := by unfold whyW nthR at z; omega
    have q := h.vs sh hs.1.1 hs.1.2
    have q6 := q.2.2.1
    exact q.2.2.2.2 i hs.2.1 (by omega)
theorem TWO.tg {x y : MS} (h : TWO x y) : TG (x 3) (updI (x 9) 4 0) := by
  have h4 := h.2.2.2.1
  have h6 := h.2.2.2.2.1
  exact ⟨by show 0 ≤ x 9 1 ∧ x 9 1 ≤ 120; rw [h4.2]; exact h6.1, by show (0 : Int) ≤ 0 ∧ 0 ≤ x 9 1; rw [h4.2]; have := h6.1; omega, by show ∀ k, 0 ≤ k → k < x 9 1 → _; rw [h4.2, h4.1]; exact h6.2⟩
theorem TWO.tgy {x y : MS} (h : TWO x y) : TG (y 4) (updI (y 8) 4 0) := by
  have h6 := h.2.2.2.2.1
  exact ⟨h6.1, by show (0 : Int) ≤ 0 ∧ 0 ≤ y 8 1; have := h6.1; omega, h6.2⟩
