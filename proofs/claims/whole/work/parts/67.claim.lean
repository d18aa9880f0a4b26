/-! the claim -/
set_option maxHeartbeats 4000000 in
set_option maxRecDepth 20000 in
theorem whole_start {p : Program} {e : Env} {s : State} {m : MethodId} {below : List Frame} {meth : Method} {c : Code} (l : Launch) (hflags : l.flags = flags0) {b L : Nat} {xs : Nat → Int32} (hL : L ≤ 3072) (C0 : lw_At p s m meth c b L xs) : W p l e room_1 s m #[Value.ref b] below meth c s.heap [] 0 0 (lw_Z below #[Value.ref b] s) (entryFrame m ([Value.ref b] : List Value).toArray 4) := by
  obtain ⟨hx, hb, hr, hml, hown, hts, hX, hbl, hlocks, hgv⟩ := id C0
  have hs := flat_of_before _ hgv
  obtain ⟨c0, i0, hK0⟩ := u_known (C := RX0) (T := TX0) (N := 5) (n := 5) hts (fun w hw => tb_in (f_X0.2.1 w hw)) (hts _ (tb_in wi_X0))
  obtain ⟨c1, i1, hK1⟩ := u_known (C := RX1) (T := TX1) (N := 3) (n := 3) hts (fun w hw => tb_in (f_X1.2.1 w hw)) (hts _ (tb_in wi_X1))
  obtain ⟨c2, i2, hK2⟩ := u_known (C := RX2) (T := TX2) (N := 2) (n := 2) hts (fun w hw => tb_in (f_X2.2.1 w hw)) (hts _ (tb_in wi_X2))
  obtain ⟨c3, i3, hK3⟩ := u_known (C := RX3) (T := TX3) (N := 6) (n := 6) hts (fun w hw => tb_in (f_X3.2.1 w hw)) (hts _ (tb_in wi_X3))
  obtain ⟨c4, i4, hK4⟩ := u_known (C := RX4) (T := TX4) (N := 8) (n := 8) hts (fun w hw => tb_in (f_X4.2.1 w hw)) (hts _ (tb_in wi_X4))
  obtain ⟨c5, i5, hK5⟩ := u_known (C := RX5) (T := TX5) (N := 8) (n := 8) hts (fun w hw => tb_in (f_X5.2.1 w hw)) (hts _ (tb_in wi_X5))
  obtain ⟨c6, i6, hK6⟩ := u_known (C := RX6) (T := TX6) (N := 15) (n := 15) hts (fun w hw => tb_in (f_X6.2.1 w hw)) (hts _ (tb_in wi_X6))
  obtain ⟨dC, dI, hKc⟩ : ∃ (dC : Nat → ClassId) (dI : Nat → Nat → Nat), ∀ (k : Nat) (q : vw_C), vwCl[k]? = some q → u_Kn s q.1 q.2.1 q.2.2 (dC k) (dI k) := by
    refine ⟨fun k => if k = 0 then c0 else if k = 1 then c1 else if k = 2 then c2 else if k = 3 then c3 else if k = 4 then c4 else if k = 5 then c5 else c6, fun k => if k = 0 then i0 else if k = 1 then i1 else if k = 2 then i2 else if k = 3 then i3 else if k = 4 then i4 else if k = 5 then i5 else i6, ?_⟩
    intro k q hq
    match k, hq with
    | 0, hq => cases hq; exact hK0
    | 1, hq => cases hq; exact hK1
    | 2, hq => cases hq; exact hK2
    | 3, hq => cases hq; exact hK3
    | 4, hq => cases hq; exact hK4
    | 5, hq => cases hq; exact hK5
    | 6, hq => cases hq; exact hK6
    | k + 7, hq => simp [vwCl] at hq
  obtain ⟨cI, kI, mI, fI, gI, jI⟩ := Cond.arrayClass_spec (hts _ (tb_in wa_int))
  obtain ⟨cL, kL, mL, fL, gL, jL⟩ := Cond.arrayClass_spec (hts _ (tb_in wa_long))
  obtain ⟨mF, cF, kF, pF, -, gF, jF, fF⟩ := Cond.arrayOver_spec (hts _ wo_X0)
  obtain ⟨mS, cS, kS, pS, -, gS, jS, fS⟩ := Cond.arrayOver_spec (hts _ wo_X1)
  obtain ⟨ad, hSW⟩ := SW_of (G := ((dC, dI), (fun _ => cI), (fun _ => 0))) hts hs
  obtain ⟨G, hG⟩ : ∃ G : GT, G = ((dC, dI), (fun k => if k = 0 then cI else if k = 1 then cL else if k = 2 then cF else cS), ad) := ⟨_, rfl⟩
  have hSG : SW G (fun q => s.heap.size ≤ q) s s.heap := hSW G (by rw [hG])
  have hK : va_K G.1 vwCl (tysG G) s := by
    rw [hG]
    refine ⟨hKc, fun k q hk => ?_⟩
    match k, hk with
    | 0, hk => cases hk; exact ⟨fun n z => ⟨fun k h => (by cases h), kI, gI, mI, jI⟩, fI⟩
    | 1, hk => cases hk; exact ⟨fun n z => ⟨fun k h => (by cases h), kL, gL, mL, jL⟩, fL⟩
    | 2, hk => cases hk; exact ⟨fun n z => ⟨fun k h => (by cases h), kF, gF, mF, jF⟩, kF, mF, gF, jF, pF, fF⟩
    | 3, hk => cases hk; exact ⟨fun n z => ⟨fun k h => (by cases h), kS, gS, mS, jS⟩, kS, mS, gS, jS, pS, fS⟩
    | k + 4, hk => simp [tysG] at hk
  clear hG hSW
  have E : CT p s m #[Value.ref b] meth c 4 G (fun q => s.heap.size ≤ q) code RL := ⟨hx, hb, hml, hown, fun w hw => hts w (tb_in hw), hK, fun q h => h, hSG, hlocks⟩
  have hN : NF s := ⟨va_Nw.of rfl (hts _ wn_X4_40), va_Nw.of rfl (hts _ wn_X5_28), va_Nw.of rfl (hts _ wn_X5_44), va_AO.of (hts _ wo_X0), va_AO.of (hts _ wo_X1)⟩
  have hP : va_P G.1 vwCl [] s.heap := fun k q h => by simp at h
  have hD : va_D (fun q : Nat => s.heap.size ≤ q) [] := ⟨fun i j p q h => by simp at h, fun k q h => by simp at h⟩
  have hl := lv_entry ([.ref b]) (n := 4) (Nat.le_of_ble_eq_true rfl)
  rw [lg_entry_eq]
  generalize (lg_sl ([.ref b]) ++ List.replicate (4 - (lg_sl ([.ref b])).length) Slot.unset).toArray = ls at hl ⊢
  have hl : lv_has ls 4 [(0, .ref b)] := hl
  have key : JX p l e room_1 s m #[Value.ref b] below meth c 4 G (fun q => s.heap.size ≤ q) 0 0 (lw_Z below #[Value.ref b] s) [] 0 [(0, .ref b)] [] := by
    refine jx_new E f_X5 wk_L_7 wi_X5 wz_X5 (fs := [.null, .null, .null, vI 0, .null, .null, .null, .null]) (fun j hj => by rcases (show j = 0 ∨ j = 1 ∨ j = 2 ∨ j = 3 ∨ j = 4 ∨ j = 5 ∨ j = 6 ∨ j = 7 by omega) with rfl | rfl | rfl | rfl | rfl | rfl | rfl | rfl <;> rfl) dL_law_0 (fun q1 => ?_)
    refine jx_dup E dL_law_3 ?_
    refine jx_ctor E hN [] [.ref q1] (c_X5_init l G q1) mb_X5_init mi_X5_init rfl wl_L_9 dL_law_4 (fun w1 h1 => ?_)
    obtain ⟨a, rfl, rfl⟩ := h1
    refine jx_astore_n E dL_law_7 (by decide) [(1, .ref (a 0)), (0, .ref b)] rfl ?_
    refine jx_new E f_X6 wk_L_10 wi_X6 wz_X6 (fs := [.null, .null, .null, vI 0, .null, .null, vI 0, vI 0, vI 0, vI 0, vI 0, vI 0, .null, .null, .null]) (fun j hj => by rcases (show j = 0 ∨ j = 1 ∨ j = 2 ∨ j = 3 ∨ j = 4 ∨ j = 5 ∨ j = 6 ∨ j = 7 ∨ j = 8 ∨ j = 9 ∨ j = 10 ∨ j = 11 ∨ j = 12 ∨ j = 13 ∨ j = 14 by omega) with rfl | rfl | rfl | rfl | rfl | rfl | rfl | rfl | rfl | rfl | rfl | rfl | rfl | rfl | rfl <;> rfl) dL_law_8 (fun q2 => ?_)
    refine jx_dup E dL_law_11 ?_
    refine jx_ctor E hN [] [.ref q2] (c_X6_init l G q2) mb_X6_init mi_X6_init rfl wl_L_12 dL_law_12 (fun w2 h2 => ?_)
    obtain ⟨b9, rfl, rfl⟩ := h2
    refine jx_astore_n E dL_law_15 (by decide) [(2, .ref (b9 0)), (1, .ref (a 0)), (0, .ref b)] rfl ?_
    refine jx_iconst E dL_law_16 ?_
    refine jx_istore_n E dL_law_17 (by decide) [(3, vI 0), (2, .ref (b9 0)), (1, .ref (a 0)), (0, .ref b)] rfl ?_
    exact law_loop E hr hX hbl hL a b9 513 iniX iniM 0 (by omega) (by omega) (by omega) ini_two
  exact key hD s.heap [] ls hP va_S.rf hl
-- ===== YOUR PART ENDS =====
set_option maxHeartbeats 4000000 in
theorem lw_walk (l : Launch) (hflags : l.flags = flags0) (b : Addr) (xs : List Int32) : MetFree l x (headSpec (Jvm.Cond.code x code maxLocals ret :: tables_1) room_1) (lw_P b xs) (fun _ _ _ _ _ => True) lw_Q := by
  refine MetFree.of_bodyS (code := code) (maxLocals := maxLocals) (ret := ret) (by decide) ?_ ?_
  · intro args s m h hn
    obtain ⟨meth, c, h1, h2, h3, h4, h5, h6, -, -⟩ := Cond.code_spec hn (atoms_spec (ws := Jvm.Cond.code x code maxLocals ret :: tables_1) h _ List.mem_cons_self)
    exact ⟨meth, c, h1, h2, h3, h4, h5, h6⟩
  · intro p e s m args below meth c s₁ B hml0 hP _
    obtain ⟨rfl, hx, hbd, hgv⟩ := hP
    obtain ⟨scr, harrAt, hlist, hof, hsmall⟩ := hx
    obtain ⟨hcb, hkn, -, -⟩ := State.arrayAt?_spec harrAt
    have hown : s.vm.findClass R_law = some m.cls := findClass_of_methodNamed B.named
    have hts0 : ∀ c ∈ (Jvm.Cond.code x code maxLocals ret :: tables_1), c.before #[Value.ref b] s = true := atoms_spec (ws := Jvm.Cond.code x code maxLocals ret :: tables_1) B.pre
    have hts : ∀ w ∈ lw_tbl, w.before #[Value.ref b] s = true := k2_hts_sels lw_privs (fun w hw => hts0 w (List.mem_cons_of_mem _ hw)) lw_privs_ok
    have hml : c.maxLocals = 4 := B.maxLocals_eq (hts0 _ List.mem_cons_self)
    have X₀ : Stand p l e room_1 s m #[Value.ref b] below meth c s₁ [] 0 0 := Stand.of_body B
    have hh0 : s₁.heap = s.heap := by rw [B.state]; rfl
    have hsz : scr.slots.size = xs.length := by rw [← Array.length_toList, hlist, List.length_map]
    have hval : ∀ j : Nat, j < xs.length → scr.slots[j]? = some (.int (xs.getD j 0)) := fun j hj => by
      rw [← Array.getElem?_toList, hlist]
      simp [hj]
    have hbl : b < s.heap.size := (Array.getElem?_eq_some_iff.mp hcb).1
    have hX : va_X b xs.length (fun j => xs.getD j 0) s s.heap := ⟨scr, hcb, hof, hkn, hsz, hval⟩
    have K : W p l e room_1 s m #[Value.ref b] below meth c s₁.heap [] 0 0 (lw_Z below #[Value.ref b] s) (entryFrame m ([Value.ref b] : List Value).toArray 4) := by
      rw [hh0]
      exact whole_start l hflags hbd ⟨B.exec, B.bytes, B.returns, hml, hown, hts, hX, hbl, B.notSynchronized, hgv⟩
    obtain ⟨t, a1, o, b1, b2, b3⟩ := K s₁ rfl X₀
    exact ⟨t, o, a1, b1, b2, b3⟩
theorem lw_pre_spec {args : Array Value} {s : State} (h : (Jvm.Cond.and given_1 narrow_1).before args s = true) (hr : rest_1_c.before args s = true) : ∃ (b : Addr) (xs : List Int32), lw_P b xs args s := by
  have hs := flat_of_before _ h
  have hq := flat_of_before _ hr
  have hc : (Cond.count 1).before args s = true := hs _ (by decide +kernel)
  have harr : (Cond.arrayOf (.arg 0) .int).before args s = true := hs _ (by decide +kernel)
  have hle : (Cond.le (.length (.arg 0)) (.int 3072)).before args s = true := hs _ (by decide +kernel)
  have hlen : (Cond.isInt (.length (.arg 0))).before args s = true := hq _ (by decide +kernel)
  have hall : (Cond.all (.arg 0) (.isInt (.elem (.arg 0) (.index 0)))).before args s = true := hq _ (by decide +kernel)
  obtain ⟨b, xs, hb, hx⟩ := State.ints_of_pre rfl harr hlen hall
  have hsm : xs.length < 2 ^ 31 := hx.choose_spec.2.2.2
  have hev : (Term.length (.arg 0)).eval args s none [] s = some (.int xs.length.toInt32) := hx.length_eval hb
  have hv := Cond.le_ints hev (show (Term.int 3072).eval args s none [] s = some (.int 3072) from rfl)
  have hd : xs.length.toInt32 ≤ 3072 := by
    simpa [Cond.before, Cond.holds, hv] using hle
  have hN : xs.length ≤ 3072 := (Int32.ofNat_le_ofNat hsm (by decide)).mp (show Int32.ofNat xs.length ≤ Int32.ofNat 3072 from hd)
  exact ⟨b, xs, Cond.one_arg hc (show args[0]? = some (.ref b) from hb), hx, hN, h⟩
theorem lw_comes (l : Launch) (hflags : l.flags = flags0) : Comes l x (Jvm.Cond.code x code maxLocals ret :: tables_1) room_1 (fun tb e args s => Calls_1 tb e args s ∧ rest_1 tb e args s ∧ Pre_1 tb e args s)
    (fun _ _ args s o t => lw_Q args s o t) := by
  intro p e ha hc hk s m args below hf hfit hheap happ hpre
  obtain ⟨b, xs, hP⟩ := lw_pre_spec hpre.2.2 hpre.2.1
  obtain ⟨k, o, h1, h2, h3, hQ⟩ := lw_walk l hflags b xs p e ha hc hk s m args below hf ((Spec.applies_iff_loose hf).mp happ).1 hP trivial
  exact ⟨k, o, h1, h2, h3, hQ⟩
theorem lw_frame {s t : State} {o : Outcome} {args : Array Value} (h : Framed s o t [] 600000 7302249) :
    Framed s o t (fieldLocs frame_1_writes args s ++ arrayLocs frame_1_arrays args s ++ staticLocs frame_1_statics s) 600000 7302249 := h
theorem lw_limb (L : Cond) (hL : ∀ (args : Array Value) (s t : State), L.after args s (.returned (some (.int 1))) t = true) :
    ArmFor flags0 classFile x code maxLocals ret World_1 tables_1 room_1 Calls_1 rest_1 Pre_1
      (fun tb e a s o t => postC L tb e a s o t ∧ Framed s o t (fieldLocs frame_1_writes a s ++ arrayLocs frame_1_arrays a s ++ staticLocs frame_1_statics s) 600000 7302249) := by
  intro l hflags _ _ p e ha hc hk s m args below hf hfit hheap happ hpre
  obtain ⟨k, o, h1, h2, h3, rfl, hF⟩ := lw_comes l hflags p e ha hc hk s m args below hf hfit hheap happ hpre
  exact ⟨k, _, h1, h2, h3, hL args s _, lw_frame hF⟩
theorem i_vc : Claimed_1_1 ∧ Claimed_1_2 := ⟨lw_limb limb_1_1 (fun args s t => by simp [limb_1_1, Cond.after, Cond.holds, Cond.value]), lw_limb limb_1_2 (fun args s t => Cond.after_iff.mpr (by
  first | (rw [show limb_1_2 = Cond.eq .result (.int 1) from rfl, Cond.eq_ints (x := 1) (y := 1) rfl rfl]; simp; done) | (simp [limb_1_2, Cond.value, Term.eval]; done)))⟩

