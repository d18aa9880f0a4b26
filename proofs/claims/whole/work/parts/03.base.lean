/-! base: whole numbers as Int, the uniform words, the judgement JX and its rows -/
def iI (z : Int) : Int32 := Int32.ofInt z
def lI (z : Int) : Int64 := Int64.ofInt z
def inR (z : Int) : Prop := -2147483648 ≤ z ∧ z ≤ 2147483647
def inL (z : Int) : Prop := -9223372036854775808 ≤ z ∧ z ≤ 9223372036854775807
abbrev vI (z : Int) : Value := .int (iI z)
abbrev vL (z : Int) : Value := .long (lI z)
theorem iI_toInt {z : Int} (h : inR z) : (iI z).toInt = z := Int32.toInt_ofInt_of_le (by have := h.1; omega) (by have := h.2; omega)
theorem lI_toInt {z : Int} (h : inL z) : (lI z).toInt = z := Int64.toInt_ofInt_of_le (by have := h.1; omega) (by have := h.2; omega)
theorem iI_of (x : Int32) : x = iI x.toInt := (Int32.ofInt_toInt x).symm
theorem lI_of (x : Int64) : x = lI x.toInt := (Int64.ofInt_toInt x).symm
theorem iI_inR (x : Int32) : inR x.toInt := ⟨by have := Int32.le_toInt x; omega, by have := Int32.toInt_lt x; omega⟩
theorem lI_inL (x : Int64) : inL x.toInt := ⟨by have := Int64.le_toInt x; omega, by have := Int64.toInt_lt x; omega⟩
theorem iI_lt {x y : Int} (hx : inR x) (hy : inR y) : iI x < iI y ↔ x < y := by rw [Int32.lt_iff_toInt_lt, iI_toInt hx, iI_toInt hy]
theorem iI_le {x y : Int} (hx : inR x) (hy : inR y) : iI x ≤ iI y ↔ x ≤ y := by rw [Int32.le_iff_toInt_le, iI_toInt hx, iI_toInt hy]
theorem iI_eq {x y : Int} (hx : inR x) (hy : inR y) : iI x = iI y ↔ x = y := ⟨fun h => by have := congrArg Int32.toInt h; rwa [iI_toInt hx, iI_toInt hy] at this, fun h => h ▸ rfl⟩
theorem lI_lt {x y : Int} (hx : inL x) (hy : inL y) : lI x < lI y ↔ x < y := by rw [Int64.lt_iff_toInt_lt, lI_toInt hx, lI_toInt hy]
theorem lI_le {x y : Int} (hx : inL x) (hy : inL y) : lI x ≤ lI y ↔ x ≤ y := by rw [Int64.le_iff_toInt_le, lI_toInt hx, lI_toInt hy]
theorem lI_eq {x y : Int} (hx : inL x) (hy : inL y) : lI x = lI y ↔ x = y := ⟨fun h => by have := congrArg Int64.toInt h; rwa [lI_toInt hx, lI_toInt hy] at this, fun h => h ▸ rfl⟩
theorem iI_add (x y : Int) : iI x + iI y = iI (x + y) := (Int32.ofInt_add x y).symm
theorem iI_sub (x y : Int) : iI x - iI y = iI (x - y) := (Int32.ofInt_sub x y).symm
theorem iI_mul (x y : Int) : iI x * iI y = iI (x * y) := (Int32.ofInt_mul x y).symm
theorem iI_neg (x : Int) : - iI x = iI (-x) := (Int32.ofInt_neg x).symm
theorem iI_div {x y : Int} (hx : inR x) (hy : inR y) : iI x / iI y = iI (x.tdiv y) := (Int32.ofInt_tdiv (by have := hx.1; show -2147483648 ≤ x; omega) (by have := hx.2; show x ≤ 2147483647; omega) (by have := hy.1; show -2147483648 ≤ y; omega) (by have := hy.2; show y ≤ 2147483647; omega)).symm
theorem iI_rem {x y : Int} (hx : inR x) (hy : inR y) : iI x - iI x / iI y * iI y = iI (x.tmod y) := by
  rw [iI_div hx hy, iI_mul, iI_sub]
  congr 1
  have := Int.mul_tdiv_add_tmod x y
  rw [Int.mul_comm] at this
  omega
theorem iI_0 : iI 0 = 0 := rfl
theorem iI_l {x : Int} (hx : inR x) : (iI x).toInt64 = lI x := Int32.toInt64_ofInt (by have := hx.1; show -2147483648 ≤ x; omega) (by have := hx.2; show x ≤ 2147483647; omega)
theorem lI_i (x : Int) : (lI x).toInt32 = iI x := Int64.toInt32_ofInt
theorem iI_b (x : Int) : (iI x).toInt8.toInt32 = iI (x.bmod 256) := by
  apply Int32.toInt_inj.1
  have h1 : -128 ≤ x.bmod 256 := by have := @Int.le_bmod x 256 (by decide); omega
  have h2 : x.bmod 256 < 128 := by have := @Int.bmod_lt x 256 (by decide); omega
  rw [Int8.toInt_toInt32, iI_toInt ⟨by omega, by omega⟩]
  show (Int32.ofInt x).toInt8.toInt = _
  rw [Int32.toInt8_ofInt, Int8.toInt_ofInt]
theorem iI_s (x : Int) : (iI x).toInt16.toInt32 = iI (x.bmod 65536) := by
  apply Int32.toInt_inj.1
  have h1 : -32768 ≤ x.bmod 65536 := by have := @Int.le_bmod x 65536 (by decide); omega
  have h2 : x.bmod 65536 < 32768 := by have := @Int.bmod_lt x 65536 (by decide); omega
  rw [Int16.toInt_toInt32, iI_toInt ⟨by omega, by omega⟩]
  show (Int32.ofInt x).toInt16.toInt = _
  rw [Int32.toInt16_ofInt, Int16.toInt_ofInt]
theorem iI_cl {z : Int} (h0 : 0 ≤ z) (h1 : z ≤ 2147483647) : (iI z).toNatClampNeg = z.toNat := by
  show (iI z).toInt.toNat = _
  rw [iI_toInt ⟨by omega, h1⟩]
theorem iI_in {z : Int} {n : Nat} (h0 : 0 ≤ z) (h1 : z < n) (hn : n ≤ 2147483647) : vp_in (iI z) n :=
  vp_in_iff.mpr (by rw [iI_toInt ⟨by omega, by omega⟩]; exact ⟨h0, h1⟩)
/-- a row of numbers, one place changed -/
def updI (f : Int → Int) (k v : Int) : Int → Int := fun j => if j = k then v else f j
/-- the rows of a system's numbers, one row changed -/
def setc (x : Nat → Int → Int) (c : Nat) (f : Int → Int) : Nat → Int → Int := fun d => if d = c then f else x d
theorem updI_at (f : Int → Int) (k v : Int) : updI f k v k = v := by simp [updI]
theorem updI_ne (f : Int → Int) {k j : Int} (v : Int) (h : j ≠ k) : updI f k v j = f j := by simp [updI, h]
theorem setc_at (x : Nat → Int → Int) (c : Nat) (f : Int → Int) : setc x c f c = f := by simp [setc]
theorem setc_ne (x : Nat → Int → Int) {c d : Nat} (f : Int → Int) (h : d ≠ c) : setc x c f d = x d := by simp [setc, h]
theorem setc_setc (x : Nat → Int → Int) (c : Nat) (f g : Int → Int) : setc (setc x c f) c g = setc x c g := by
  funext d; by_cases h : d = c <;> simp [setc, h]
theorem setc_self (x : Nat → Int → Int) (c : Nat) : setc x c (x c) = x := by
  funext d; by_cases h : d = c <;> simp [setc, h]
theorem setc_comm (x : Nat → Int → Int) {c d : Nat} (f g : Int → Int) (h : c ≠ d) : setc (setc x c f) d g = setc (setc x d g) c f := by
  funext q; simp only [setc]; split <;> split <;> simp_all
abbrev MS : Type := Nat → Int → Int
abbrev GT : Type := va_G × (Nat → ClassId) × (Nat → Nat)
def tysG (G : GT) : List (ClassId × FieldType) := [(G.2.1 0, .int), (G.2.1 1, .long), (G.2.1 2, .object RX0), (G.2.1 3, .object RX1)]
def TB : List Cond := lw_tbl.filter goodWord
theorem tb_of {w : Cond} (h : w ∈ lw_tbl) (hg : goodWord w = true) : w ∈ TB := List.mem_filter.mpr ⟨h, hg⟩
theorem tb_good {ws : List Cond} (h : ∀ w ∈ ws, w ∈ TB) : GoodIn TB ws := fun w hw => ⟨h w hw, good_of_word (List.mem_filter.mp (h w hw)).2⟩
/-- a class of the worlds, with its words -/
def FC (ci : Nat) (C : String) (T : u_T) (N : Nat) (ty : Nat → FieldType) : Prop :=
  vwCl[ci]? = some (C, T, N) ∧ (∀ w ∈ u_ws C T N, w ∈ TB) ∧ (∀ k, k < N → (T k).1 = C) ∧ (∀ k, k < N → parseFieldDescriptor (T k).2.2.1 = some (ty k)) ∧ (∀ a, a < N → ∀ b, b < N → a ≠ b → (T a).2.1 ≠ (T b).2.1)
/-- a method's own words -/
def MB (y : MethodName) (bytes : ByteArray) (maxL : Nat) (ret : Option FieldType) (n : Nat) : Prop :=
  Cond.initialized y.cls ∈ TB ∧ Cond.code y bytes maxL ret ∈ TB ∧ (y.cls ≠ "java/lang/invoke/MethodHandle" ∧ y.cls ≠ "java/lang/invoke/VarHandle" ∧ (parseMethodDescriptor y.desc).map (fun d => d.parameters.length) = some n)
def MV (y : MethodName) : Prop := Cond.instanceMethod y ∈ TB ∧ Cond.selects y.cls y y ∈ TB
def rmL (d : Nat) : Room := { frames := d, cells := 0, slots := 0, locals := 40 * d }
/-- the rows that stand outside the systems' cells -/
def ka_row : List Int := [-1, 0, 0, 0, 1, 3]
def nm_row : List Int := [106, 101, 116, 0, 0, 0, 0, 109, 97, 121, 111, 114, 0, 0, 119, 105, 102, 101, 0, 0, 0, 98, 97, 115, 105, 110, 0, 0, 98, 105, 115, 104, 111, 112, 0, 98, 111, 121, 0, 0, 0, 0, 104, 105, 103, 104, 0, 0, 0, 108, 111, 118, 101, 100, 0, 0, 111, 102, 102, 0, 0, 0, 0, 114, 97, 105, 110, 0, 0, 0, 99, 111, 108, 100, 0, 0, 0, 109, 105, 108, 100, 0, 0, 0, 116, 97, 110, 107, 0, 0, 0]
/-- the words of the text, in the order of the reference's names; their places in the reader's class file -/
def sw_pool : List Nat := [72, 77, 79, 81, 83, 85, 99, 105, 109, 46, 55, 60, 62]
def sw_text : List String := ["jet", "mayor", "wife", "basin", "bishop", "boy", "high", "loved", "off", "rain", "cold", "mild", "tank"]
def sw_byt : List (List Int32) := [[106, 101, 116], [109, 97, 121, 111, 114], [119, 105, 102, 101], [98, 97, 115, 105, 110], [98, 105, 115, 104, 111, 112], [98, 111, 121], [104, 105, 103, 104], [108, 111, 118, 101, 100], [111, 102, 102], [114, 97, 105, 110], [99, 111, 108, 100], [109, 105, 108, 100], [116, 97, 110, 107]]
def sw_len : List Nat := [3, 5, 4, 5, 6, 3, 4, 5, 3, 4, 4, 4, 4]
def SW (G : GT) (A : Nat → Prop) (U : State) (H : Heap) : Prop :=
  va_Z "NamedFountains" "KIND_ABOVE" "[I" (.ref (G.2.2 0)) A U H ∧ va_T .int (G.2.2 0) 6 (fun j => vI (ka_row.getD j 0)) A U H ∧
  va_Z "NamedFountainsModel" "NAMES" "[I" (.ref (G.2.2 1)) A U H ∧ va_T .int (G.2.2 1) 91 (fun j => vI (nm_row.getD j 0)) A U H ∧
  vk_S 13 sw_len sw_byt (fun i => G.2.2 (2 + i)) (fun i => G.2.2 (20 + i)) A U H ∧
  va_Z "java/lang/String" "COMPACT_STRINGS" "Z" (.int 1) A U H ∧
  va_Zq "jdk/internal/util/Preconditions" "SIOOBE_FORMATTER" "Ljava/util/function/BiFunction;" A U H ∧
  ∀ i : Nat, i < 13 → vk_R RX3 (sw_pool.getD i 0) (sw_text.getD i "") (G.2.2 (2 + i)) U
theorem SW.kept {G : GT} {A : Nat → Prop} {U : State} {H H1 : Heap} (h : SW G A U H) (hq : ∀ a : Nat, a < H.size → ¬ A a → H1[a]? = H[a]?) : SW G A U H1 :=
  ⟨h.1.kept hq, h.2.1.kept hq, h.2.2.1.kept hq, h.2.2.2.1.kept hq, h.2.2.2.2.1.kept hq, h.2.2.2.2.2.1.kept hq, h.2.2.2.2.2.2.1.kept hq, h.2.2.2.2.2.2.2⟩
theorem SW.narrow {G : GT} {A B : Nat → Prop} {U : State} {H : Heap} (h : SW G A U H) (hAB : ∀ q, B q → A q) : SW G B U H :=
  ⟨h.1.narrow hAB, h.2.1.narrow hAB, h.2.2.1.narrow hAB, h.2.2.2.1.narrow hAB, h.2.2.2.2.1.narrow hAB, h.2.2.2.2.2.1.narrow hAB, h.2.2.2.2.2.2.1.narrow hAB, h.2.2.2.2.2.2.2⟩
theorem SW.warm {G : GT} {A : Nat → Prop} {s U : State} {H : Heap} (hW : s.WarmedH U.vm) (h : SW G A s H) : SW G A U H :=
  ⟨h.1.moved hW.alike, h.2.1.moved hW.alike, h.2.2.1.moved hW.alike, h.2.2.2.1.moved hW.alike, h.2.2.2.2.1.moved hW.alike, h.2.2.2.2.2.1.moved hW.alike, h.2.2.2.2.2.2.1.moved hW.alike, fun i hi => (h.2.2.2.2.2.2.2 i hi).warm hW⟩
theorem SW.same {G : GT} {A : Nat → Prop} {s U : State} {H : Heap} (hv : U.vm = s.vm) (h : SW G A s H) : SW G A U H :=
  have ha : s.vm.Alike U.vm := by rw [hv]; exact Vm.Alike.refl s.vm
  ⟨h.1.moved ha, h.2.1.moved ha, h.2.2.1.moved ha, h.2.2.2.1.moved ha, h.2.2.2.2.1.moved ha, h.2.2.2.2.2.1.moved ha, h.2.2.2.2.2.2.1.moved ha, fun i hi => (h.2.2.2.2.2.2.2 i hi).same hv⟩
/-- what stands still within a method -/
def CT (p : Program) (s : State) (m : MethodId) (args : Array Value) (meth : Method) (c : Code) (nL : Nat) (G : GT) (A : Nat → Prop) (cc : ByteArray) (own : String) : Prop :=
  p.tables.exec = Jvm.exec ∧ c.code = cc ∧ c.maxLocals = nL ∧ s.vm.findClass own = some m.cls ∧ (∀ w ∈ TB, w.before args s = true) ∧ va_K G.1 vwCl (tysG G) s ∧ (∀ q, s.heap.size ≤ q → A q) ∧ SW G A s s.heap ∧ meth.locks = false
/-- the machine at pc, with these locals and this stack, over the world ws, comes to Q -/
def JX (p : Program) (l : Launch) (e : Env) (R : Room) (s : State) (m : MethodId) (args : Array Value) (below : List Frame) (meth : Method) (c : Code) (nL : Nat) (G : GT) (A : Nat → Prop) (kc ks : Nat) (Q : State → Prop) (ws : va_W) (pc : Nat) (lv : List (Nat × Value)) (st : List Value) : Prop :=
  va_D A ws → ∀ (H : Heap) (locs : List Loc) (ls : Array Slot), va_P G.1 vwCl ws H → va_S A s.heap H locs → lv_has ls nL lv → W p l e R s m args below meth c H locs kc ks Q (F0 m pc ls st)
