/-! THE G LAYER: one judgement for a method's frame over an abstract heap; rows without worlds' places -/
def W0 : List Cond := lw_tbl.filter goodWord
theorem W0_good {w : Cond} (h : w ∈ W0) : goodWord w = true := (List.mem_filter.mp h).2
theorem W0_in {w : Cond} (h : w ∈ lw_tbl) (hg : goodWord w = true) : w ∈ W0 := List.mem_filter.mpr ⟨h, hg⟩
def iI (z : Int) : Int32 := Int32.ofInt z
def iL (z : Int) : Int64 := Int64.ofInt z
theorem iI_add (a b : Int) : iI (a + b) = iI a + iI b := Int32.ofInt_add a b
theorem iI_sub (a b : Int) : iI (a - b) = iI a - iI b := Int32.ofInt_sub a b
theorem iI_mul (a b : Int) : iI (a * b) = iI a * iI b := Int32.ofInt_mul a b
theorem iI_neg (a : Int) : iI (-a) = -iI a := Int32.ofInt_neg a
theorem iL_add (a b : Int) : iL (a + b) = iL a + iL b := Int64.ofInt_add a b
theorem iL_sub (a b : Int) : iL (a - b) = iL a - iL b := Int64.ofInt_sub a b
theorem iL_mul (a b : Int) : iL (a * b) = iL a * iL b := Int64.ofInt_mul a b
theorem iI_toInt {a : Int} (h : -2147483648 ≤ a ∧ a ≤ 2147483647) : (iI a).toInt = a := Int32.toInt_ofInt_of_le h.1 (by omega)
theorem iL_toInt {a : Int} (h : -9223372036854775808 ≤ a ∧ a ≤ 9223372036854775807) : (iL a).toInt = a := Int64.toInt_ofInt_of_le h.1 (by omega)
theorem iI_of (x : Int32) : iI x.toInt = x := Int32.ofInt_toInt x
theorem iL_of (x : Int64) : iL x.toInt = x := Int64.ofInt_toInt x
theorem iI_lt {a b : Int} (h : -2147483648 ≤ a ∧ a ≤ 2147483647 ∧ -2147483648 ≤ b ∧ b ≤ 2147483647) : iI a < iI b ↔ a < b := by
  rw [Int32.lt_iff_toInt_lt, iI_toInt ⟨h.1, h.2.1⟩, iI_toInt h.2.2]
theorem iI_le {a b : Int} (h : -2147483648 ≤ a ∧ a ≤ 2147483647 ∧ -2147483648 ≤ b ∧ b ≤ 2147483647) : iI a ≤ iI b ↔ a ≤ b := by
  rw [Int32.le_iff_toInt_le, iI_toInt ⟨h.1, h.2.1⟩, iI_toInt h.2.2]
theorem iI_eq {a b : Int} (h : -2147483648 ≤ a ∧ a ≤ 2147483647 ∧ -2147483648 ≤ b ∧ b ≤ 2147483647) : iI a = iI b ↔ a = b := by
  rw [← Int32.toInt_inj, iI_toInt ⟨h.1, h.2.1⟩, iI_toInt h.2.2]
theorem iI_ne {a b : Int} (h : -2147483648 ≤ a ∧ a ≤ 2147483647 ∧ -2147483648 ≤ b ∧ b ≤ 2147483647) : iI a ≠ iI b ↔ a ≠ b := not_congr (iI_eq h)
theorem iI_zero : (0 : Int32) = iI 0 := rfl
theorem iL_zero : (0 : Int64) = iL 0 := rfl
theorem iI_lt0 {a : Int} (h : -2147483648 ≤ a ∧ a ≤ 2147483647) : iI a < 0 ↔ a < 0 := by rw [iI_zero]; exact iI_lt ⟨h.1, h.2, by omega, by omega⟩
theorem iI_ge0 {a : Int} (h : -2147483648 ≤ a ∧ a ≤ 2147483647) : 0 ≤ iI a ↔ 0 ≤ a := by rw [iI_zero]; exact iI_le ⟨by omega, by omega, h.1, h.2⟩
theorem iI_gt0 {a : Int} (h : -2147483648 ≤ a ∧ a ≤ 2147483647) : 0 < iI a ↔ 0 < a := by rw [iI_zero]; exact iI_lt ⟨by omega, by omega, h.1, h.2⟩
theorem iI_le0 {a : Int} (h : -2147483648 ≤ a ∧ a ≤ 2147483647) : iI a ≤ 0 ↔ a ≤ 0 := by rw [iI_zero]; exact iI_le ⟨h.1, h.2, by omega, by omega⟩
theorem iI_eq0 {a : Int} (h : -2147483648 ≤ a ∧ a ≤ 2147483647) : iI a = 0 ↔ a = 0 := by rw [iI_zero]; exact iI_eq ⟨h.1, h.2, by omega, by omega⟩
theorem iI_ne0 {a : Int} (h : -2147483648 ≤ a ∧ a ≤ 2147483647) : iI a ≠ 0 ↔ a ≠ 0 := not_congr (iI_eq0 h)
theorem iL_ne0 {b : Int} (h : 0 < b ∧ b ≤ 9223372036854775807) : ¬ iL b = 0 := by
  rw [iL_zero, ← Int64.toInt_inj, iL_toInt ⟨by omega, h.2⟩, iL_toInt ⟨by omega, by omega⟩]; omega
theorem tmod_bd {a b : Int} : (0 ≤ a → 0 ≤ a.tmod b ∧ a.tmod b ≤ a) ∧ (a < 0 → a ≤ a.tmod b ∧ a.tmod b ≤ 0) := by
  have key : ∀ c : Int, 0 ≤ c → 0 ≤ c.tmod b ∧ c.tmod b ≤ c := by
    intro c hc
    have h1 : 0 ≤ c.tmod b := Int.tmod_nonneg b hc
    have h2 : (c.tmod b).natAbs ≤ c.natAbs := by rw [Int.natAbs_tmod]; exact Nat.mod_le _ _
    omega
  refine ⟨key a, fun h => ?_⟩
  have h1 := key (-a) (by omega)
  rw [Int.neg_tmod] at h1
  omega
theorem tdiv_bd {a b : Int} (hb : 0 < b) : (0 ≤ a → 0 ≤ a.tdiv b ∧ a.tdiv b ≤ a) ∧ (a < 0 → a ≤ a.tdiv b ∧ a.tdiv b ≤ 0) := by
  have key : ∀ c : Int, 0 ≤ c → 0 ≤ c.tdiv b ∧ c.tdiv b ≤ c := by
    intro c hc
    have h1 : 0 ≤ c.tdiv b := Int.tdiv_nonneg hc (by omega)
    have h2 : (c.tdiv b).natAbs ≤ c.natAbs := by rw [Int.natAbs_tdiv]; exact Nat.div_le_self _ _
    omega
  refine ⟨key a, fun h => ?_⟩
  have h1 := key (-a) (by omega)
  rw [Int.neg_tdiv] at h1
  omega
theorem iI_tmod {a b : Int} (h : -2147483648 ≤ a ∧ a ≤ 2147483647 ∧ -2147483648 ≤ b ∧ b ≤ 2147483647) : iI (a.tmod b) = iI a % iI b := by
  rw [← Int32.toInt_inj, Int32.toInt_mod, iI_toInt ⟨h.1, h.2.1⟩, iI_toInt h.2.2, iI_toInt]
  have h2 := tmod_bd (a := a) (b := b)
  omega
theorem iI_tdiv {a b : Int} (h : -2147483648 ≤ a ∧ a ≤ 2147483647 ∧ 0 < b ∧ b ≤ 2147483647) : iI (a.tdiv b) = iI a / iI b := by
  have hb : iI b ≠ -1 := by
    intro z
    have := congrArg Int32.toInt z
    rw [iI_toInt ⟨by omega, h.2.2.2⟩] at this
    have h1 : (-1 : Int32).toInt = -1 := by decide
    omega
  rw [← Int32.toInt_inj, Int32.toInt_div_of_ne_right _ _ hb, iI_toInt ⟨h.1, h.2.1⟩, iI_toInt ⟨by omega, h.2.2.2⟩, iI_toInt]
  have h2 := tdiv_bd (a := a) (b := b) (by omega)
  omega
theorem iL_tmod {a b : Int} (h : -9223372036854775808 ≤ a ∧ a ≤ 9223372036854775807 ∧ 0 < b ∧ b ≤ 9223372036854775807) : iL (a.tmod b) = iL a % iL b := by
  rw [← Int64.toInt_inj, Int64.toInt_mod, iL_toInt ⟨h.1, h.2.1⟩, iL_toInt ⟨by omega, h.2.2.2⟩, iL_toInt]
  have h2 := tmod_bd (a := a) (b := b)
  omega
theorem iL_tdiv {a b : Int} (h : -9223372036854775808 ≤ a ∧ a ≤ 9223372036854775807 ∧ 0 < b ∧ b ≤ 9223372036854775807) : iL (a.tdiv b) = iL a / iL b := by
  have hb : iL b ≠ -1 := by
    intro z
    have := congrArg Int64.toInt z
    rw [iL_toInt ⟨by omega, h.2.2.2⟩] at this
    have h1 : (-1 : Int64).toInt = -1 := by decide
    omega
  rw [← Int64.toInt_inj, Int64.toInt_div_of_ne_right _ _ hb, iL_toInt ⟨h.1, h.2.1⟩, iL_toInt ⟨by omega, h.2.2.2⟩, iL_toInt]
  have h2 := tdiv_bd (a := a) (b := b) (by omega)
  omega
theorem iI_rem {a b : Int} (h : -2147483648 ≤ a ∧ a ≤ 2147483647 ∧ 0 < b ∧ b ≤ 2147483647) : iI (a.tmod b) = iI a - iI a / iI b * iI b := by
  rw [Int.tmod_def, iI_sub, ← iI_tdiv h, ← iI_mul, Int.mul_comm]
theorem iL_rem {a b : Int} (h : -9223372036854775808 ≤ a ∧ a ≤ 9223372036854775807 ∧ 0 < b ∧ b ≤ 9223372036854775807) : iL (a.tmod b) = iL a - iL a / iL b * iL b := by
  rw [Int.tmod_def, iL_sub, ← iL_tdiv h, ← iL_mul, Int.mul_comm]
theorem iI_toL {a : Int} (h : -2147483648 ≤ a ∧ a ≤ 2147483647) : (iI a).toInt64 = iL a := by
  rw [← Int64.toInt_inj, Int32.toInt_toInt64, iI_toInt h, iL_toInt ⟨by omega, by omega⟩]
theorem iL_toI {a : Int} : (iL a).toInt32 = iI a := Int64.toInt32_ofInt
theorem iI_clamp {a : Int} (h : -2147483648 ≤ a ∧ a ≤ 2147483647) : (iI a).toNatClampNeg = a.toNat := by
  show (iI a).toInt.toNat = _
  rw [iI_toInt h]
-- the abstract heap
abbrev GC : Type := Launch × va_G × Nat × (Nat → ClassId) × ((Nat → Nat) × (Nat → Nat)) × Heap
def gL (g : GC) : Launch := g.1
def gD (g : GC) : va_G := g.2.1
def gB (g : GC) : Nat := g.2.2.1
def gY (g : GC) : Nat → ClassId := g.2.2.2.1
def gSK (g : GC) : Nat → Nat := g.2.2.2.2.1.1
def gSV (g : GC) : Nat → Nat := g.2.2.2.2.1.2
def gH0 (g : GC) : Heap := g.2.2.2.2.2
abbrev GA : Type := Nat → Option va_E
abbrev GM : Type := MethodName × ByteArray × Nat × Option FieldType
def gr (g : GC) (k : Nat) : Value := .ref (gB g + k)
def gup (h : GA) (a : Nat) (e : va_E) : GA := fun k => if k = a then some e else h k
def iup (xs : Int → Int) (i v : Int) : Int → Int := fun j => if j = i then v else xs j
def gtys (g : GC) : List (ClassId × FieldType) := [(gY g 0, .byte), (gY g 1, .int), (gY g 2, .long), (gY g 3, .boolean), (gY g 4, .object RX4), (gY g 5, .object RX5), (gY g 6, .object RX7), (gY g 7, .object RX8)]
def gAi (xs : Int → Int) : Nat → Int32 := fun j => iI (xs (j : Int))
def gAl (xs : Int → Int) : Nat → Int64 := fun j => iL (xs (j : Int))
def gAr (g : GC) (xs : Int → Option Nat) : Nat → Option Nat := fun j => (xs (j : Int)).map (fun k => gB g + k)
/-- arrays of bytes (0), ints (1), booleans (3); of longs; of references of type place t -/
def gI (g : GC) (t n : Nat) (xs : Int → Int) : va_E := .inl (gY g t, n, .inl (gAi xs))
def gJ (g : GC) (n : Nat) (xs : Int → Int) : va_E := .inl (gY g 2, n, .inr (.inl (gAl xs)))
def gR (g : GC) (t n : Nat) (xs : Int → Option Nat) : va_E := .inl (gY g t, n, .inr (.inr (.inr (.inr (gAr g xs)))))
def gO (ci : Nat) (fs : List Value) : va_E := .inr (ci, fs)
def gStrs : List (String × Nat × String) := [(RX9, 87, "plain n * m ; split size * cut + 9 ; turn 80 ;"), (RX6, 75, "plain"), (RX6, 81, "split"), (RX6, 83, "turn"), (RX6, 85, "or"), (RX6, 87, "and"), (RX6, 89, "not"), (RX6, 91, "n"), (RX6, 95, "m"), (RX6, 97, "size"), (RX6, 98, "cut"), (RX6, 100, "kind"), (RX6, 102, "same")]
def gStrLen : List Nat := [46, 5, 5, 4, 2, 3, 3, 1, 1, 4, 3, 4, 4]
def gStrByt : List (List Int32) := [[112, 108, 97, 105, 110, 32, 110, 32, 42, 32, 109, 32, 59, 32, 115, 112, 108, 105, 116, 32, 115, 105, 122, 101, 32, 42, 32, 99, 117, 116, 32, 43, 32, 57, 32, 59, 32, 116, 117, 114, 110, 32, 56, 48, 32, 59], [112, 108, 97, 105, 110], [115, 112, 108, 105, 116], [116, 117, 114, 110], [111, 114], [97, 110, 100], [110, 111, 116], [110], [109], [115, 105, 122, 101], [99, 117, 116], [107, 105, 110, 100], [115, 97, 109, 101]]
def gNest : List Cond := [.methodLinkNest RX9 30 yX6_init RX9, .methodLinkNest RX9 85 yX5_init RX9, .methodLinkNest RX9 86 yX7_init RX9, .methodLinkNest RX1 11 yX7_init RX9, .methodLinkNest RX1 91 yX9_isWithin RX9, .methodLinkNest RX2 51 yX9_isWithin RX9, .methodLinkNest RX5 28 yX9_isWithin RX9, .methodLinkNest RX7 35 yX9_isWithin RX9, .methodLinkNest RX8 47 yX9_isWithin RX9]
def gOver : List String := [RX4, RX5, RX7, RX8]
def Rp (g : GC) (h : GA) (n : Nat) (H : Heap) : Prop := H.size = gB g + n ∧ (∀ k e, h k = some e → va_at (gD g) vwCl (gB g + k, e) H) ∧ ∀ q, q < gB g → H[q]? = (gH0 g)[q]?
def GStr (g : GC) (U : State) : Prop := (∀ i own k tx, gStrs[i]? = some (own, k, tx) → vk_R own k tx (gSK g i) U) ∧ vk_S 13 gStrLen gStrByt (gSK g) (gSV g) (fun q => gB g ≤ q) U (gH0 g) ∧ va_Z "java/lang/String" "COMPACT_STRINGS" "Z" (.int 1) (fun q => gB g ≤ q) U (gH0 g) ∧ va_Zq "jdk/internal/util/Preconditions" "SIOOBE_FORMATTER" "Ljava/util/function/BiFunction;" (fun q => gB g ≤ q) U (gH0 g)
def GK (g : GC) (U : State) : Prop := va_K (gD g) vwCl (gtys g) U ∧ (∀ w ∈ gNest, va_Nw w U) ∧ (∀ C ∈ gOver, va_AO C U) ∧ GStr g U ∧ gB g ≤ U.heap.size ∧ gB g = (gH0 g).size
theorem gNest_ok : ∀ w ∈ gNest, w.onTables = true ∧ ∃ (a : String) (i : Nat) (x : MethodName) (h : String), w = .methodLinkNest a i x h := by
  intro w hw
  simp only [gNest, List.mem_cons, List.not_mem_nil, or_false] at hw
  rcases hw with rfl | rfl | rfl | rfl | rfl | rfl | rfl | rfl | rfl <;> exact ⟨rfl, _, _, _, _, rfl⟩
theorem GStr.warm {g : GC} {s U : State} (hW : s.WarmedH U.vm) (h : GStr g s) : GStr g U :=
  ⟨fun i own k tx q => (h.1 i own k tx q).warm hW, h.2.1.moved hW.alike, h.2.2.1.moved hW.alike, h.2.2.2.moved hW.alike⟩
theorem GStr.same {g : GC} {s U : State} (hv : s.vm = U.vm) (h : GStr g s) : GStr g U := GStr.warm (hv ▸ State.WarmedH.refl s) h
theorem GK.warm {g : GC} {s U : State} (hW : s.WarmedH U.vm) (hz : gB g ≤ U.heap.size) (h : GK g s) : GK g U := by
  refine ⟨va_K.moved hW.alike h.1, fun w hw => ?_, fun C hC => (h.2.2.1 C hC).moved hW.alike, h.2.2.2.1.warm hW, hz, h.2.2.2.2.2⟩
  have h1 := h.2.1 w hw
  obtain ⟨-, a, i, x, hh, rfl⟩ := gNest_ok w hw
  exact va_Nw.warmM hW h1
theorem GK.calling {g : GC} {U : State} {f : JFrame} {mk : MethodId} {a : Array Value} (h : GK g U) : GK g (U.calling f mk a) :=
  GK.warm (s := U) (U := U.calling f mk a) (State.WarmedH.refl U) h.2.2.2.2.1 h
def grm (d mc ms : Nat) : Room := { frames := d, cells := mc, slots := ms, locals := 60 * d }
def gws (y : GM) : List Cond := .code y.1 y.2.1 y.2.2.1 y.2.2.2 :: W0
def gQ (g : GC) (Q : Option Value → GA → Nat → Prop) : Array Value → State → Outcome → State → Prop := fun _ _ o t => ∃ v h n, o = .returned v ∧ Rp g h n t.heap ∧ Q v h n
def GX (g : GC) (y : GM) (p : Program) (s : State) (m : MethodId) (args : Array Value) (meth : Method) (c : Code) : Prop :=
  p.tables.exec = Jvm.exec ∧ c.code = y.2.1 ∧ c.maxLocals = y.2.2.1 ∧ meth.sig.returnType = y.2.2.2 ∧ meth.locks = false ∧ (∀ w ∈ W0, w.before args s = true) ∧ s.vm.findClass y.1.cls = some m.cls ∧ meth.name = y.1.name ∧ GK g s
def G (g : GC) (y : GM) (d mc ms pc : Nat) (ls : List (Nat × Value)) (st : List Value) (h : GA) (n k u : Nat) (Q : Option Value → GA → Nat → Prop) : Prop :=
  ∀ (p : Program) (e : Env) (s : State) (m : MethodId) (args : Array Value) (below : List Frame) (meth : Method) (c : Code) (H : Heap) (locs : List Loc) (la : Array Slot),
    GX g y p s m args meth c → Rp g h n H → (∀ q ∈ locs, gB g ≤ q.base) → lv_has la y.2.2.1 ls →
    W p (gL g) e (grm d mc ms) s m args below meth c H locs k u (MQ below (gQ g Q) args s mc ms (fun q => gB g ≤ q)) (F0 m pc la st)
/-- a call of y with these arguments, over this heap, returns with Q -/
def GCall (g : GC) (y : GM) (d mc ms : Nat) (args : List Value) (h : GA) (n : Nat) (Q : Option Value → GA → Nat → Prop) : Prop :=
  Met (gL g) y.1 (gws y) (grm d mc ms) (va_Pc args (fun U => Rp g h n U.heap ∧ GK g U)) (gQ g Q) mc ms (fun q => gB g ≤ q)
theorem GCall.of {g : GC} {y : GM} {d mc ms : Nat} {args : List Value} {h : GA} {n : Nat} {Q : Option Value → GA → Nat → Prop} (hy : plainName y.1.cls = true) (ha : (lg_sl args).length ≤ y.2.2.1) {ls : List (Nat × Value)} (hls : lv_args 0 args = ls)
    (kk : G g y d mc ms 0 ls [] h n 0 0 Q) : GCall g y d mc ms args h n Q := by
  refine Met.ofW (cc := y.2.1) (maxL := y.2.2.1) (ret := y.2.2.2) (ws' := W0) hy rfl ?_
  intro p e s m args' below meth c s₁ B hml hv
  obtain ⟨rfl, hR, hK⟩ := hv
  have hts := atoms_spec (ws := gws y) B.pre
  have hl := lv_entry args (n := y.2.2.1) ha
  rw [lg_entry_eq]
  rw [hls] at hl
  exact kk p e s m _ below meth c s.heap [] _ ⟨B.exec, B.bytes, hml, B.returns, B.notSynchronized, fun w hw => hts w (List.mem_cons_of_mem _ hw), findClass_of_methodNamed B.named, (name_of_methodNamed B.named B.method).1, hK⟩ hR (fun q hq => absurd hq List.not_mem_nil) hl
-- the locals
def lk : List (Nat × Value) → Nat → Option Value
  | [], _ => none
  | (i, v) :: l, j => if i = j then some v else lk l j
theorem lk_ix : ∀ {ls : List (Nat × Value)} {j : Nat} {v : Value}, lk ls j = some v → ∃ i : Nat, ls[i]? = some (j, v)
  | [], _, _, h => by cases h
  | (i, w) :: l, j, v, h => by
    unfold lk at h
    by_cases hj : i = j
    · rw [if_pos hj] at h
      cases h
      subst hj
      exact ⟨0, rfl⟩
    · rw [if_neg hj] at h
      obtain ⟨q, hq⟩ := lk_ix h
      exact ⟨q + 1, hq⟩
theorem lk_at {la : Array Slot} {nL : Nat} {ls : List (Nat × Value)} (h : lv_has la nL ls) {j : Nat} {v : Value} (hv : lk ls j = some v) : la[j]? = some (.val v) := by
  obtain ⟨i, hi⟩ := lk_ix hv
  exact lv_at h i hi
def lput (ls : List (Nat × Value)) (i : Nat) (v : Value) : List (Nat × Value) := (i, v) :: ls.filter (fun q => !(q.1 == i) && !(q.1 + 1 == i && q.2.category == 2))
def lput2 (ls : List (Nat × Value)) (i : Nat) (v : Value) : List (Nat × Value) := (i, v) :: ls.filter (fun q => !(q.1 == i) && (!(q.1 == i + 1) && !(q.1 + 1 == i && q.2.category == 2)))
/-- every listed value is there -/
def lsub (ls : List (Nat × Value)) : List (Nat × Value) → Prop
  | [] => True
  | (i, v) :: l => lk ls i = some v ∧ lsub ls l
theorem lsub_has {la : Array Slot} {nL : Nat} {ls : List (Nat × Value)} (h : lv_has la nL ls) : ∀ {l : List (Nat × Value)}, lsub ls l → lv_has la nL l
  | [], _ => ⟨h.1, h.2.1, fun q hq => absurd hq List.not_mem_nil⟩
  | (i, v) :: l, hs => by
    refine ⟨h.1, h.2.1, fun q hq => ?_⟩
    rcases List.mem_cons.mp hq with rfl | hq
    · exact lk_at h hs.1
    · exact (lsub_has h hs.2).2.2 q hq
section GROWS
variable {g : GC} {y : GM} {d mc ms pc : Nat} {ls : List (Nat × Value)} {st : List Value} {h : GA} {n k u : Nat} {Q : Option Value → GA → Nat → Prop}
theorem G_ls {ls' : List (Nat × Value)} (hs : lsub ls ls') (kk : G g y d mc ms pc ls' st h n k u Q) : G g y d mc ms pc ls st h n k u Q :=
  fun p e s m args below meth c H locs la X hR hL hl => kk p e s m args below meth c H locs la X hR hL (lsub_has hl hs)
theorem G_post {Q' : Option Value → GA → Nat → Prop} (hq : ∀ v h n, Q' v h n → Q v h n) (kk : G g y d mc ms pc ls st h n k u Q') : G g y d mc ms pc ls st h n k u Q := by
  intro p e s m args below meth c H locs la X hR hL hl T hT XX
  obtain ⟨t, a1, o, b1, b2, ⟨v, h', n', e1, e2, e3⟩, b4⟩ := kk p e s m args below meth c H locs la X hR hL hl T hT XX
  exact ⟨t, a1, o, b1, b2, ⟨v, h', n', e1, e2, hq v h' n' e3⟩, b4⟩

theorem G_iconst {z : Int} (hd : decode y.2.1 pc = .ok (.iconst z, 1)) 
    (kk : G g y d mc ms (pc + 1) ls (.int (iI z) :: st) h n k u Q) : G g y d mc ms pc ls (st) h n k u Q := by
  intro p e s m args below meth c H locs la X hR hL hl
  exact lv_iconst X.1 X.2.1 hd rfl (kk p e s m args below meth c H locs la X hR hL hl)
theorem G_bipush {z : Int} (hd : decode y.2.1 pc = .ok (.bipush z, 2)) (hz : (Int8.ofInt z).toInt32 = iI z)
    (kk : G g y d mc ms (pc + 2) ls (.int (iI z) :: st) h n k u Q) : G g y d mc ms pc ls (st) h n k u Q := by
  intro p e s m args below meth c H locs la X hR hL hl
  exact lv_bipush X.1 X.2.1 hd hz (kk p e s m args below meth c H locs la X hR hL hl)
theorem G_sipush {z : Int} (hd : decode y.2.1 pc = .ok (.sipush z, 3)) (hz : (Int16.ofInt z).toInt32 = iI z)
    (kk : G g y d mc ms (pc + 3) ls (.int (iI z) :: st) h n k u Q) : G g y d mc ms pc ls (st) h n k u Q := by
  intro p e s m args below meth c H locs la X hR hL hl
  exact lv_sipush X.1 X.2.1 hd hz (kk p e s m args below meth c H locs la X hR hL hl)
theorem G_lconst {z : Fin 2} {v : Int} (hd : decode y.2.1 pc = .ok (.lconst z, 1)) (hz : Int64.ofNat (z : Nat) = iL v)
    (kk : G g y d mc ms (pc + 1) ls (.long (iL v) :: st) h n k u Q) : G g y d mc ms pc ls (st) h n k u Q := by
  intro p e s m args below meth c H locs la X hR hL hl
  exact lv_lconst X.1 X.2.1 hd hz (kk p e s m args below meth c H locs la X hR hL hl)
theorem G_ldc {ix : Nat} {v : Int32} {z : Int} (hd : decode y.2.1 pc = .ok (.ldc ix, 2)) (hc : Jvm.Cond.constant y.1.cls ix v ∈ W0) (hz : v = iI z)
    (kk : G g y d mc ms (pc + 2) ls (.int (iI z) :: st) h n k u Q) : G g y d mc ms pc ls (st) h n k u Q := by
  intro p e s m args below meth c H locs la X hR hL hl
  subst hz; exact lv_ldc X.1 X.2.1 X.2.2.2.2.2.2.1 (X.2.2.2.2.2.1 _ hc) hd (kk p e s m args below meth c H locs la X hR hL hl)
theorem G_ldcw {ix : Nat} {v : Int32} {z : Int} (hd : decode y.2.1 pc = .ok (.ldc_w ix, 3)) (hc : Jvm.Cond.constant y.1.cls ix v ∈ W0) (hz : v = iI z)
    (kk : G g y d mc ms (pc + 3) ls (.int (iI z) :: st) h n k u Q) : G g y d mc ms pc ls (st) h n k u Q := by
  intro p e s m args below meth c H locs la X hR hL hl
  subst hz; exact lv_ldcw X.1 X.2.1 X.2.2.2.2.2.2.1 (X.2.2.2.2.2.1 _ hc) hd (kk p e s m args below meth c H locs la X hR hL hl)
theorem G_ldc2 {ix : Nat} {v : Int64} {z : Int} (hd : decode y.2.1 pc = .ok (.ldc2_w ix, 3)) (hc : Jvm.Cond.constantLong y.1.cls ix v ∈ W0) (hz : v = iL z)
    (kk : G g y d mc ms (pc + 3) ls (.long (iL z) :: st) h n k u Q) : G g y d mc ms pc ls (st) h n k u Q := by
  intro p e s m args below meth c H locs la X hR hL hl
  subst hz; exact lv_ldc2 X.1 X.2.1 X.2.2.2.2.2.2.1 (X.2.2.2.2.2.1 _ hc) hd (kk p e s m args below meth c H locs la X hR hL hl)
theorem G_iload_n {j : Fin 4} {v : Int32} (hd : decode y.2.1 pc = .ok (.iload_n j, 1)) (hv : lk ls (j : Nat) = some (.int v))
    (kk : G g y d mc ms (pc + 1) ls (.int v :: st) h n k u Q) : G g y d mc ms pc ls (st) h n k u Q := by
  intro p e s m args below meth c H locs la X hR hL hl
  exact lv_iload_n X.1 X.2.1 hd rfl (lk_at hl hv) (kk p e s m args below meth c H locs la X hR hL hl)
theorem G_iload {j : Nat} {v : Int32} (hd : decode y.2.1 pc = .ok (.iload j, 2)) (hv : lk ls j = some (.int v))
    (kk : G g y d mc ms (pc + 2) ls (.int v :: st) h n k u Q) : G g y d mc ms pc ls (st) h n k u Q := by
  intro p e s m args below meth c H locs la X hR hL hl
  exact lv_iload X.1 X.2.1 hd (lk_at hl hv) (kk p e s m args below meth c H locs la X hR hL hl)
theorem G_lload_n {j : Fin 4} {v : Int64} (hd : decode y.2.1 pc = .ok (.lload_n j, 1)) (hv : lk ls (j : Nat) = some (.long v))
    (kk : G g y d mc ms (pc + 1) ls (.long v :: st) h n k u Q) : G g y d mc ms pc ls (st) h n k u Q := by
  intro p e s m args below meth c H locs la X hR hL hl
  exact lv_lload_n X.1 X.2.1 hd rfl (lk_at hl hv) (kk p e s m args below meth c H locs la X hR hL hl)
theorem G_lload {j : Nat} {v : Int64} (hd : decode y.2.1 pc = .ok (.lload j, 2)) (hv : lk ls j = some (.long v))
    (kk : G g y d mc ms (pc + 2) ls (.long v :: st) h n k u Q) : G g y d mc ms pc ls (st) h n k u Q := by
  intro p e s m args below meth c H locs la X hR hL hl
  exact lv_lload X.1 X.2.1 hd (lk_at hl hv) (kk p e s m args below meth c H locs la X hR hL hl)
theorem G_aload_n {j : Fin 4} {v : Nat} (hd : decode y.2.1 pc = .ok (.aload_n j, 1)) (hv : lk ls (j : Nat) = some (.ref v))
    (kk : G g y d mc ms (pc + 1) ls (.ref v :: st) h n k u Q) : G g y d mc ms pc ls (st) h n k u Q := by
  intro p e s m args below meth c H locs la X hR hL hl
  exact lv_aload_n X.1 X.2.1 hd rfl (lk_at hl hv) (kk p e s m args below meth c H locs la X hR hL hl)
theorem G_aload {j : Nat} {v : Nat} (hd : decode y.2.1 pc = .ok (.aload j, 2)) (hv : lk ls j = some (.ref v))
    (kk : G g y d mc ms (pc + 2) ls (.ref v :: st) h n k u Q) : G g y d mc ms pc ls (st) h n k u Q := by
  intro p e s m args below meth c H locs la X hR hL hl
  exact lv_aload X.1 X.2.1 hd (lk_at hl hv) (kk p e s m args below meth c H locs la X hR hL hl)
theorem G_istore_n {j : Fin 4} {v : Int32} {ls' : List (Nat × Value)} (hd : decode y.2.1 pc = .ok (.istore_n j, 1)) (hn : (j : Nat) < y.2.2.1) (he : lput ls (j : Nat) (.int v) = ls')
    (kk : G g y d mc ms (pc + 1) ls' st h n k u Q) : G g y d mc ms pc ls (.int v :: st) h n k u Q := by
  intro p e s m args below meth c H locs la X hR hL hl
  exact lv_istore_n X.1 X.2.1 hd rfl hl hn he (fun la hl => kk p e s m args below meth c H locs la X hR hL hl)
theorem G_istore {j : Nat} {v : Int32} {ls' : List (Nat × Value)} (hd : decode y.2.1 pc = .ok (.istore j, 2)) (hn : j < y.2.2.1) (he : lput ls j (.int v) = ls')
    (kk : G g y d mc ms (pc + 2) ls' st h n k u Q) : G g y d mc ms pc ls (.int v :: st) h n k u Q := by
  intro p e s m args below meth c H locs la X hR hL hl
  exact lv_istore X.1 X.2.1 hd hl hn he (fun la hl => kk p e s m args below meth c H locs la X hR hL hl)
theorem G_astore_n {j : Fin 4} {v : Nat} {ls' : List (Nat × Value)} (hd : decode y.2.1 pc = .ok (.astore_n j, 1)) (hn : (j : Nat) < y.2.2.1) (he : lput ls (j : Nat) (.ref v) = ls')
    (kk : G g y d mc ms (pc + 1) ls' st h n k u Q) : G g y d mc ms pc ls (.ref v :: st) h n k u Q := by
  intro p e s m args below meth c H locs la X hR hL hl
  exact lv_astore_n X.1 X.2.1 hd rfl hl hn he (fun la hl => kk p e s m args below meth c H locs la X hR hL hl)
theorem G_astore {j : Nat} {v : Nat} {ls' : List (Nat × Value)} (hd : decode y.2.1 pc = .ok (.astore j, 2)) (hn : j < y.2.2.1) (he : lput ls j (.ref v) = ls')
    (kk : G g y d mc ms (pc + 2) ls' st h n k u Q) : G g y d mc ms pc ls (.ref v :: st) h n k u Q := by
  intro p e s m args below meth c H locs la X hR hL hl
  exact lv_astore X.1 X.2.1 hd hl hn he (fun la hl => kk p e s m args below meth c H locs la X hR hL hl)
theorem G_lstore_n {j : Fin 4} {v : Int64} {ls' : List (Nat × Value)} (hd : decode y.2.1 pc = .ok (.lstore_n j, 1)) (hn : (j : Nat) + 1 < y.2.2.1) (he : lput2 ls (j : Nat) (.long v) = ls')
    (kk : G g y d mc ms (pc + 1) ls' st h n k u Q) : G g y d mc ms pc ls (.long v :: st) h n k u Q := by
  intro p e s m args below meth c H locs la X hR hL hl
  exact lv_lstore_n X.1 X.2.1 hd rfl hl hn he (fun la hl => kk p e s m args below meth c H locs la X hR hL hl)
theorem G_lstore {j : Nat} {v : Int64} {ls' : List (Nat × Value)} (hd : decode y.2.1 pc = .ok (.lstore j, 2)) (hn : j + 1 < y.2.2.1) (he : lput2 ls j (.long v) = ls')
    (kk : G g y d mc ms (pc + 2) ls' st h n k u Q) : G g y d mc ms pc ls (.long v :: st) h n k u Q := by
  intro p e s m args below meth c H locs la X hR hL hl
  exact lv_lstore X.1 X.2.1 hd hl hn he (fun la hl => kk p e s m args below meth c H locs la X hR hL hl)
theorem G_iinc {j : Nat} {z a : Int} {ls' : List (Nat × Value)} (hd : decode y.2.1 pc = .ok (.iinc j z, 3)) (hv : lk ls j = some (.int (iI a))) (hn : j < y.2.2.1) (he : lput ls j (.int (iI (a + z))) = ls')
    (kk : G g y d mc ms (pc + 3) ls' st h n k u Q) : G g y d mc ms pc ls st h n k u Q := by
  intro p e s m args below meth c H locs la X hR hL hl
  obtain ⟨i, hi⟩ := lk_ix hv
  exact lv_iinc X.1 X.2.1 hd hl hi (by rw [iI_add]; rfl) hn he (fun la hl => kk p e s m args below meth c H locs la X hR hL hl)
theorem G_iadd {a b : Int} (hd : decode y.2.1 pc = .ok (.iadd, 1)) 
    (kk : G g y d mc ms (pc + 1) ls (.int (iI (a + b)) :: st) h n k u Q) : G g y d mc ms pc ls (.int (iI b) :: .int (iI a) :: st) h n k u Q := by
  intro p e s m args below meth c H locs la X hR hL hl
  rw [iI_add] at kk; exact lv_iadd X.1 X.2.1 hd (kk p e s m args below meth c H locs la X hR hL hl)
theorem G_isub {a b : Int} (hd : decode y.2.1 pc = .ok (.isub, 1)) 
    (kk : G g y d mc ms (pc + 1) ls (.int (iI (a - b)) :: st) h n k u Q) : G g y d mc ms pc ls (.int (iI b) :: .int (iI a) :: st) h n k u Q := by
  intro p e s m args below meth c H locs la X hR hL hl
  rw [iI_sub] at kk; exact lv_isub X.1 X.2.1 hd (kk p e s m args below meth c H locs la X hR hL hl)
theorem G_imul {a b : Int} (hd : decode y.2.1 pc = .ok (.imul, 1)) 
    (kk : G g y d mc ms (pc + 1) ls (.int (iI (a * b)) :: st) h n k u Q) : G g y d mc ms pc ls (.int (iI b) :: .int (iI a) :: st) h n k u Q := by
  intro p e s m args below meth c H locs la X hR hL hl
  rw [iI_mul] at kk; exact lv_imul X.1 X.2.1 hd (kk p e s m args below meth c H locs la X hR hL hl)
theorem G_irem {a b : Int} (hd : decode y.2.1 pc = .ok (.irem, 1)) (hr : -2147483648 ≤ a ∧ a ≤ 2147483647 ∧ 0 < b ∧ b ≤ 2147483647)
    (kk : G g y d mc ms (pc + 1) ls (.int (iI (a.tmod b)) :: st) h n k u Q) : G g y d mc ms pc ls (.int (iI b) :: .int (iI a) :: st) h n k u Q := by
  intro p e s m args below meth c H locs la X hR hL hl
  rw [iI_rem hr] at kk; exact lv_irem X.1 X.2.1 hd ((iI_ne0 ⟨by omega, hr.2.2.2⟩).mpr (by omega)) (kk p e s m args below meth c H locs la X hR hL hl)
theorem G_iremP {a b : Int} (hd : decode y.2.1 pc = .ok (.irem, 1)) (hr : 0 ≤ a ∧ a ≤ 2147483647 ∧ 0 < b ∧ b ≤ 2147483647)
    (kk : G g y d mc ms (pc + 1) ls (.int (iI (a % b)) :: st) h n k u Q) : G g y d mc ms pc ls (.int (iI b) :: .int (iI a) :: st) h n k u Q := by
  intro p e s m args below meth c H locs la X hR hL hl
  rw [← Int.tmod_eq_emod_of_nonneg hr.1] at kk; exact G_irem hd ⟨by omega, by omega, by omega, by omega⟩ kk p e s m args below meth c H locs la X hR hL hl
theorem G_idiv {a b : Int} (hd : decode y.2.1 pc = .ok (.idiv, 1)) (hr : -2147483648 ≤ a ∧ a ≤ 2147483647 ∧ 0 < b ∧ b ≤ 2147483647)
    (kk : G g y d mc ms (pc + 1) ls (.int (iI (a.tdiv b)) :: st) h n k u Q) : G g y d mc ms pc ls (.int (iI b) :: .int (iI a) :: st) h n k u Q := by
  intro p e s m args below meth c H locs la X hR hL hl
  rw [iI_tdiv ⟨hr.1, hr.2.1, hr.2.2.1, hr.2.2.2⟩] at kk; exact lv_idiv X.1 X.2.1 hd ((iI_ne0 ⟨by omega, hr.2.2.2⟩).mpr (by omega)) (kk p e s m args below meth c H locs la X hR hL hl)
theorem G_idivP {a b : Int} (hd : decode y.2.1 pc = .ok (.idiv, 1)) (hr : 0 ≤ a ∧ a ≤ 2147483647 ∧ 0 < b ∧ b ≤ 2147483647)
    (kk : G g y d mc ms (pc + 1) ls (.int (iI (a / b)) :: st) h n k u Q) : G g y d mc ms pc ls (.int (iI b) :: .int (iI a) :: st) h n k u Q := by
  intro p e s m args below meth c H locs la X hR hL hl
  rw [← Int.tdiv_eq_ediv_of_nonneg hr.1] at kk; exact G_idiv hd ⟨by omega, by omega, by omega, by omega⟩ kk p e s m args below meth c H locs la X hR hL hl
theorem G_ineg {a : Int} (hd : decode y.2.1 pc = .ok (.ineg, 1))
    (kk : G g y d mc ms (pc + 1) ls (.int (iI (-a)) :: st) h n k u Q) : G g y d mc ms pc ls (.int (iI a) :: st) h n k u Q := by
  intro p e s m args below meth c H locs la X hR hL hl
  rw [iI_neg] at kk; exact lv_ineg X.1 X.2.1 hd (kk p e s m args below meth c H locs la X hR hL hl)
theorem G_ishl {a b v : Int32} (hd : decode y.2.1 pc = .ok (.ishl, 1)) (hv : a <<< (b &&& 31) = v)
    (kk : G g y d mc ms (pc + 1) ls (.int v :: st) h n k u Q) : G g y d mc ms pc ls (.int b :: .int a :: st) h n k u Q := by
  intro p e s m args below meth c H locs la X hR hL hl
  subst hv; exact lv_ishl X.1 X.2.1 hd (kk p e s m args below meth c H locs la X hR hL hl)
theorem G_ishr {a b v : Int32} (hd : decode y.2.1 pc = .ok (.ishr, 1)) (hv : a >>> (b &&& 31) = v)
    (kk : G g y d mc ms (pc + 1) ls (.int v :: st) h n k u Q) : G g y d mc ms pc ls (.int b :: .int a :: st) h n k u Q := by
  intro p e s m args below meth c H locs la X hR hL hl
  subst hv; exact lv_ishr X.1 X.2.1 hd (kk p e s m args below meth c H locs la X hR hL hl)
theorem G_iand {a b v : Int32} (hd : decode y.2.1 pc = .ok (.iand, 1)) (hv : a &&& b = v)
    (kk : G g y d mc ms (pc + 1) ls (.int v :: st) h n k u Q) : G g y d mc ms pc ls (.int b :: .int a :: st) h n k u Q := by
  intro p e s m args below meth c H locs la X hR hL hl
  subst hv; exact lv_iand X.1 X.2.1 hd (kk p e s m args below meth c H locs la X hR hL hl)
theorem G_lshl {a v : Int64} {b : Int32} (hd : decode y.2.1 pc = .ok (.lshl, 1)) (hv : a <<< (b.toInt64 &&& 63) = v)
    (kk : G g y d mc ms (pc + 1) ls (.long v :: st) h n k u Q) : G g y d mc ms pc ls (.int b :: .long a :: st) h n k u Q := by
  intro p e s m args below meth c H locs la X hR hL hl
  exact lv_lshl X.1 X.2.1 hd hv (kk p e s m args below meth c H locs la X hR hL hl)
theorem G_lshr {a v : Int64} {b : Int32} (hd : decode y.2.1 pc = .ok (.lshr, 1)) (hv : a >>> (b.toInt64 &&& 63) = v)
    (kk : G g y d mc ms (pc + 1) ls (.long v :: st) h n k u Q) : G g y d mc ms pc ls (.int b :: .long a :: st) h n k u Q := by
  intro p e s m args below meth c H locs la X hR hL hl
  exact lv_lshr X.1 X.2.1 hd hv (kk p e s m args below meth c H locs la X hR hL hl)
theorem G_land {a b v : Int64} (hd : decode y.2.1 pc = .ok (.land, 1)) (hv : a &&& b = v)
    (kk : G g y d mc ms (pc + 1) ls (.long v :: st) h n k u Q) : G g y d mc ms pc ls (.long b :: .long a :: st) h n k u Q := by
  intro p e s m args below meth c H locs la X hR hL hl
  subst hv; exact lv_land X.1 X.2.1 hd (kk p e s m args below meth c H locs la X hR hL hl)
theorem G_lor {a b v : Int64} (hd : decode y.2.1 pc = .ok (.lor, 1)) (hv : a ||| b = v)
    (kk : G g y d mc ms (pc + 1) ls (.long v :: st) h n k u Q) : G g y d mc ms pc ls (.long b :: .long a :: st) h n k u Q := by
  intro p e s m args below meth c H locs la X hR hL hl
  subst hv; exact lv_lor X.1 X.2.1 hd (kk p e s m args below meth c H locs la X hR hL hl)
theorem G_ladd {a b : Int} (hd : decode y.2.1 pc = .ok (.ladd, 1)) 
    (kk : G g y d mc ms (pc + 1) ls (.long (iL (a + b)) :: st) h n k u Q) : G g y d mc ms pc ls (.long (iL b) :: .long (iL a) :: st) h n k u Q := by
  intro p e s m args below meth c H locs la X hR hL hl
  rw [iL_add] at kk; exact lv_ladd X.1 X.2.1 hd (kk p e s m args below meth c H locs la X hR hL hl)
theorem G_lsub {a b : Int} (hd : decode y.2.1 pc = .ok (.lsub, 1)) 
    (kk : G g y d mc ms (pc + 1) ls (.long (iL (a - b)) :: st) h n k u Q) : G g y d mc ms pc ls (.long (iL b) :: .long (iL a) :: st) h n k u Q := by
  intro p e s m args below meth c H locs la X hR hL hl
  rw [iL_sub] at kk; exact lv_lsub X.1 X.2.1 hd (kk p e s m args below meth c H locs la X hR hL hl)
theorem G_lmul {a b : Int} (hd : decode y.2.1 pc = .ok (.lmul, 1)) 
    (kk : G g y d mc ms (pc + 1) ls (.long (iL (a * b)) :: st) h n k u Q) : G g y d mc ms pc ls (.long (iL b) :: .long (iL a) :: st) h n k u Q := by
  intro p e s m args below meth c H locs la X hR hL hl
  rw [iL_mul] at kk; exact lv_lmul X.1 X.2.1 hd (kk p e s m args below meth c H locs la X hR hL hl)
theorem G_lrem {a b : Int} (hd : decode y.2.1 pc = .ok (.lrem, 1)) (hr : -9223372036854775808 ≤ a ∧ a ≤ 9223372036854775807 ∧ 0 < b ∧ b ≤ 9223372036854775807)
    (kk : G g y d mc ms (pc + 1) ls (.long (iL (a.tmod b)) :: st) h n k u Q) : G g y d mc ms pc ls (.long (iL b) :: .long (iL a) :: st) h n k u Q := by
  intro p e s m args below meth c H locs la X hR hL hl
  rw [iL_rem hr] at kk; exact lv_lrem X.1 X.2.1 hd (iL_ne0 hr.2.2) (kk p e s m args below meth c H locs la X hR hL hl)
theorem G_ldiv {a b : Int} (hd : decode y.2.1 pc = .ok (.ldiv, 1)) (hr : -9223372036854775808 ≤ a ∧ a ≤ 9223372036854775807 ∧ 0 < b ∧ b ≤ 9223372036854775807)
    (kk : G g y d mc ms (pc + 1) ls (.long (iL (a.tdiv b)) :: st) h n k u Q) : G g y d mc ms pc ls (.long (iL b) :: .long (iL a) :: st) h n k u Q := by
  intro p e s m args below meth c H locs la X hR hL hl
  rw [iL_tdiv hr] at kk; exact lv_ldiv X.1 X.2.1 hd (iL_ne0 hr.2.2) (kk p e s m args below meth c H locs la X hR hL hl)
theorem G_i2l {a : Int} (hd : decode y.2.1 pc = .ok (.i2l, 1)) (hr : -2147483648 ≤ a ∧ a ≤ 2147483647)
    (kk : G g y d mc ms (pc + 1) ls (.long (iL a) :: st) h n k u Q) : G g y d mc ms pc ls (.int (iI a) :: st) h n k u Q := by
  intro p e s m args below meth c H locs la X hR hL hl
  exact lv_i2l X.1 X.2.1 hd (iI_toL hr) (kk p e s m args below meth c H locs la X hR hL hl)
theorem G_l2i {a : Int} (hd : decode y.2.1 pc = .ok (.l2i, 1))
    (kk : G g y d mc ms (pc + 1) ls (.int (iI a) :: st) h n k u Q) : G g y d mc ms pc ls (.long (iL a) :: st) h n k u Q := by
  intro p e s m args below meth c H locs la X hR hL hl
  exact lv_l2i X.1 X.2.1 hd iL_toI (kk p e s m args below meth c H locs la X hR hL hl)
theorem G_i2b {a v : Int32} (hd : decode y.2.1 pc = .ok (.i2b, 1)) (hv : a.toInt8.toInt32 = v)
    (kk : G g y d mc ms (pc + 1) ls (.int v :: st) h n k u Q) : G g y d mc ms pc ls (.int a :: st) h n k u Q := by
  intro p e s m args below meth c H locs la X hR hL hl
  exact lv_i2b X.1 X.2.1 hd hv (kk p e s m args below meth c H locs la X hR hL hl)
theorem G_i2s {a v : Int32} (hd : decode y.2.1 pc = .ok (.i2s, 1)) (hv : a.toInt16.toInt32 = v)
    (kk : G g y d mc ms (pc + 1) ls (.int v :: st) h n k u Q) : G g y d mc ms pc ls (.int a :: st) h n k u Q := by
  intro p e s m args below meth c H locs la X hR hL hl
  exact lv_i2s X.1 X.2.1 hd hv (kk p e s m args below meth c H locs la X hR hL hl)
theorem G_dup {v : Value} (hd : decode y.2.1 pc = .ok (.dup, 1)) (hc : v.category = 1)
    (kk : G g y d mc ms (pc + 1) ls (v :: v :: st) h n k u Q) : G g y d mc ms pc ls (v :: st) h n k u Q := by
  intro p e s m args below meth c H locs la X hR hL hl
  exact lv_dup X.1 X.2.1 hd hc (kk p e s m args below meth c H locs la X hR hL hl)
theorem G_pop {v : Value} (hd : decode y.2.1 pc = .ok (.pop, 1)) (hc : v.category = 1)
    (kk : G g y d mc ms (pc + 1) ls st h n k u Q) : G g y d mc ms pc ls (v :: st) h n k u Q := by
  intro p e s m args below meth c H locs la X hR hL hl
  exact lv_pop X.1 X.2.1 hd hc (kk p e s m args below meth c H locs la X hR hL hl)
theorem G_goto {off : Int} (t : Nat) (hd : decode y.2.1 pc = .ok (.goto off, 3)) (ht : (pc : Int) + off = (t : Int))
    (kk : G g y d mc ms t ls st h n k u Q) : G g y d mc ms pc ls st h n k u Q := by
  intro p e s m args below meth c H locs la X hR hL hl
  exact lv_goto X.1 X.2.1 hd ht (kk p e s m args below meth c H locs la X hR hL hl)
theorem G_ifnull {a : Nat} {off : Int} (hd : decode y.2.1 pc = .ok (.ifnull off, 3))
    (kk : G g y d mc ms (pc + 3) ls st h n k u Q) : G g y d mc ms pc ls (.ref a :: st) h n k u Q := by
  intro p e s m args below meth c H locs la X hR hL hl
  exact lv_ifnull X.1 X.2.1 hd (kk p e s m args below meth c H locs la X hR hL hl)
theorem G_topi {x : Int} (kk : ∀ z : Int, z = x → G g y d mc ms pc ls (.int (iI z) :: st) h n k u Q) : G g y d mc ms pc ls (.int (iI x) :: st) h n k u Q := kk x rfl
theorem G_topl {x : Int} (kk : ∀ z : Int, z = x → G g y d mc ms pc ls (.long (iL z) :: st) h n k u Q) : G g y d mc ms pc ls (.long (iL x) :: st) h n k u Q := kk x rfl
theorem G_rei {x z : Int} (e : x = z) (kk : G g y d mc ms pc ls (.int (iI z) :: st) h n k u Q) : G g y d mc ms pc ls (.int (iI x) :: st) h n k u Q := e ▸ kk
theorem G_rel {x z : Int} (e : x = z) (kk : G g y d mc ms pc ls (.long (iL z) :: st) h n k u Q) : G g y d mc ms pc ls (.long (iL x) :: st) h n k u Q := e ▸ kk
theorem G_h {h' : GA} (e : h = h') (kk : G g y d mc ms pc ls st h' n k u Q) : G g y d mc ms pc ls st h n k u Q := e ▸ kk
theorem G_icmp_eq {a b off : Int} (t : Nat) (hd : decode y.2.1 pc = .ok (.if_icmp .eq off, 3)) (ht : (pc : Int) + off = (t : Int)) (hr : -2147483648 ≤ a ∧ a ≤ 2147483647 ∧ -2147483648 ≤ b ∧ b ≤ 2147483647)
    (kt : a = b → G g y d mc ms t ls st h n k u Q) (kf : ¬ (a = b) → G g y d mc ms (pc + 3) ls st h n k u Q) : G g y d mc ms pc ls (.int (iI b) :: .int (iI a) :: st) h n k u Q := by
  intro p e s m args below meth c H locs la X hR hL hl
  exact lv_icmp_eq X.1 X.2.1 hd ht (fun q => kt ((iI_eq hr).mp q) p e s m args below meth c H locs la X hR hL hl) (fun q => kf (fun z => q ((iI_eq hr).mpr z)) p e s m args below meth c H locs la X hR hL hl)
theorem G_icmp_ne {a b off : Int} (t : Nat) (hd : decode y.2.1 pc = .ok (.if_icmp .ne off, 3)) (ht : (pc : Int) + off = (t : Int)) (hr : -2147483648 ≤ a ∧ a ≤ 2147483647 ∧ -2147483648 ≤ b ∧ b ≤ 2147483647)
    (kt : a ≠ b → G g y d mc ms t ls st h n k u Q) (kf : ¬ (a ≠ b) → G g y d mc ms (pc + 3) ls st h n k u Q) : G g y d mc ms pc ls (.int (iI b) :: .int (iI a) :: st) h n k u Q := by
  intro p e s m args below meth c H locs la X hR hL hl
  exact lv_icmp_ne X.1 X.2.1 hd ht (fun q => kt (fun z => q ((iI_eq hr).mpr z)) p e s m args below meth c H locs la X hR hL hl) (fun q => kf (fun z => z ((iI_eq hr).mp q)) p e s m args below meth c H locs la X hR hL hl)
theorem G_icmp_lt {a b off : Int} (t : Nat) (hd : decode y.2.1 pc = .ok (.if_icmp .lt off, 3)) (ht : (pc : Int) + off = (t : Int)) (hr : -2147483648 ≤ a ∧ a ≤ 2147483647 ∧ -2147483648 ≤ b ∧ b ≤ 2147483647)
    (kt : a < b → G g y d mc ms t ls st h n k u Q) (kf : ¬ (a < b) → G g y d mc ms (pc + 3) ls st h n k u Q) : G g y d mc ms pc ls (.int (iI b) :: .int (iI a) :: st) h n k u Q := by
  intro p e s m args below meth c H locs la X hR hL hl
  exact lv_icmp_lt X.1 X.2.1 hd ht (fun q => kt ((iI_lt hr).mp q) p e s m args below meth c H locs la X hR hL hl) (fun q => kf (fun z => q ((iI_lt hr).mpr z)) p e s m args below meth c H locs la X hR hL hl)
theorem G_icmp_ge {a b off : Int} (t : Nat) (hd : decode y.2.1 pc = .ok (.if_icmp .ge off, 3)) (ht : (pc : Int) + off = (t : Int)) (hr : -2147483648 ≤ a ∧ a ≤ 2147483647 ∧ -2147483648 ≤ b ∧ b ≤ 2147483647)
    (kt : b ≤ a → G g y d mc ms t ls st h n k u Q) (kf : ¬ (b ≤ a) → G g y d mc ms (pc + 3) ls st h n k u Q) : G g y d mc ms pc ls (.int (iI b) :: .int (iI a) :: st) h n k u Q := by
  intro p e s m args below meth c H locs la X hR hL hl
  exact lv_icmp_ge X.1 X.2.1 hd ht (fun q => kt ((iI_le ⟨hr.2.2.1, hr.2.2.2, hr.1, hr.2.1⟩).mp q) p e s m args below meth c H locs la X hR hL hl) (fun q => kf (fun z => q ((iI_le ⟨hr.2.2.1, hr.2.2.2, hr.1, hr.2.1⟩).mpr z)) p e s m args below meth c H locs la X hR hL hl)
theorem G_icmp_gt {a b off : Int} (t : Nat) (hd : decode y.2.1 pc = .ok (.if_icmp .gt off, 3)) (ht : (pc : Int) + off = (t : Int)) (hr : -2147483648 ≤ a ∧ a ≤ 2147483647 ∧ -2147483648 ≤ b ∧ b ≤ 2147483647)
    (kt : b < a → G g y d mc ms t ls st h n k u Q) (kf : ¬ (b < a) → G g y d mc ms (pc + 3) ls st h n k u Q) : G g y d mc ms pc ls (.int (iI b) :: .int (iI a) :: st) h n k u Q := by
  intro p e s m args below meth c H locs la X hR hL hl
  exact lv_icmp_gt X.1 X.2.1 hd ht (fun q => kt ((iI_lt ⟨hr.2.2.1, hr.2.2.2, hr.1, hr.2.1⟩).mp q) p e s m args below meth c H locs la X hR hL hl) (fun q => kf (fun z => q ((iI_lt ⟨hr.2.2.1, hr.2.2.2, hr.1, hr.2.1⟩).mpr z)) p e s m args below meth c H locs la X hR hL hl)
theorem G_icmp_le {a b off : Int} (t : Nat) (hd : decode y.2.1 pc = .ok (.if_icmp .le off, 3)) (ht : (pc : Int) + off = (t : Int)) (hr : -2147483648 ≤ a ∧ a ≤ 2147483647 ∧ -2147483648 ≤ b ∧ b ≤ 2147483647)
    (kt : a ≤ b → G g y d mc ms t ls st h n k u Q) (kf : ¬ (a ≤ b) → G g y d mc ms (pc + 3) ls st h n k u Q) : G g y d mc ms pc ls (.int (iI b) :: .int (iI a) :: st) h n k u Q := by
  intro p e s m args below meth c H locs la X hR hL hl
  exact lv_icmp_le X.1 X.2.1 hd ht (fun q => kt ((iI_le hr).mp q) p e s m args below meth c H locs la X hR hL hl) (fun q => kf (fun z => q ((iI_le hr).mpr z)) p e s m args below meth c H locs la X hR hL hl)
theorem G_if_eq {a off : Int} (t : Nat) (hd : decode y.2.1 pc = .ok (.ifCond .eq off, 3)) (ht : (pc : Int) + off = (t : Int)) (hr : -2147483648 ≤ a ∧ a ≤ 2147483647)
    (kt : a = 0 → G g y d mc ms t ls st h n k u Q) (kf : ¬ (a = 0) → G g y d mc ms (pc + 3) ls st h n k u Q) : G g y d mc ms pc ls (.int (iI a) :: st) h n k u Q := by
  intro p e s m args below meth c H locs la X hR hL hl
  exact lv_if_eq X.1 X.2.1 hd ht (fun q => kt ((iI_eq0 hr).mp q) p e s m args below meth c H locs la X hR hL hl) (fun q => kf (fun z => q ((iI_eq0 hr).mpr z)) p e s m args below meth c H locs la X hR hL hl)
theorem G_if_ne {a off : Int} (t : Nat) (hd : decode y.2.1 pc = .ok (.ifCond .ne off, 3)) (ht : (pc : Int) + off = (t : Int)) (hr : -2147483648 ≤ a ∧ a ≤ 2147483647)
    (kt : a ≠ 0 → G g y d mc ms t ls st h n k u Q) (kf : ¬ (a ≠ 0) → G g y d mc ms (pc + 3) ls st h n k u Q) : G g y d mc ms pc ls (.int (iI a) :: st) h n k u Q := by
  intro p e s m args below meth c H locs la X hR hL hl
  exact lv_if_ne X.1 X.2.1 hd ht (fun q => kt (fun z => q ((iI_eq0 hr).mpr z)) p e s m args below meth c H locs la X hR hL hl) (fun q => kf (fun z => z ((iI_eq0 hr).mp q)) p e s m args below meth c H locs la X hR hL hl)
theorem G_if_lt {a off : Int} (t : Nat) (hd : decode y.2.1 pc = .ok (.ifCond .lt off, 3)) (ht : (pc : Int) + off = (t : Int)) (hr : -2147483648 ≤ a ∧ a ≤ 2147483647)
    (kt : a < 0 → G g y d mc ms t ls st h n k u Q) (kf : ¬ (a < 0) → G g y d mc ms (pc + 3) ls st h n k u Q) : G g y d mc ms pc ls (.int (iI a) :: st) h n k u Q := by
  intro p e s m args below meth c H locs la X hR hL hl
  exact lv_if_lt X.1 X.2.1 hd ht (fun q => kt ((iI_lt0 hr).mp q) p e s m args below meth c H locs la X hR hL hl) (fun q => kf (fun z => q ((iI_lt0 hr).mpr z)) p e s m args below meth c H locs la X hR hL hl)
theorem G_if_ge {a off : Int} (t : Nat) (hd : decode y.2.1 pc = .ok (.ifCond .ge off, 3)) (ht : (pc : Int) + off = (t : Int)) (hr : -2147483648 ≤ a ∧ a ≤ 2147483647)
    (kt : 0 ≤ a → G g y d mc ms t ls st h n k u Q) (kf : ¬ (0 ≤ a) → G g y d mc ms (pc + 3) ls st h n k u Q) : G g y d mc ms pc ls (.int (iI a) :: st) h n k u Q := by
  intro p e s m args below meth c H locs la X hR hL hl
  exact lv_if_ge X.1 X.2.1 hd ht (fun q => kt ((iI_ge0 hr).mp q) p e s m args below meth c H locs la X hR hL hl) (fun q => kf (fun z => q ((iI_ge0 hr).mpr z)) p e s m args below meth c H locs la X hR hL hl)
theorem G_if_gt {a off : Int} (t : Nat) (hd : decode y.2.1 pc = .ok (.ifCond .gt off, 3)) (ht : (pc : Int) + off = (t : Int)) (hr : -2147483648 ≤ a ∧ a ≤ 2147483647)
    (kt : 0 < a → G g y d mc ms t ls st h n k u Q) (kf : ¬ (0 < a) → G g y d mc ms (pc + 3) ls st h n k u Q) : G g y d mc ms pc ls (.int (iI a) :: st) h n k u Q := by
  intro p e s m args below meth c H locs la X hR hL hl
  exact lv_if_gt X.1 X.2.1 hd ht (fun q => kt ((iI_gt0 hr).mp q) p e s m args below meth c H locs la X hR hL hl) (fun q => kf (fun z => q ((iI_gt0 hr).mpr z)) p e s m args below meth c H locs la X hR hL hl)
theorem G_if_le {a off : Int} (t : Nat) (hd : decode y.2.1 pc = .ok (.ifCond .le off, 3)) (ht : (pc : Int) + off = (t : Int)) (hr : -2147483648 ≤ a ∧ a ≤ 2147483647)
    (kt : a ≤ 0 → G g y d mc ms t ls st h n k u Q) (kf : ¬ (a ≤ 0) → G g y d mc ms (pc + 3) ls st h n k u Q) : G g y d mc ms pc ls (.int (iI a) :: st) h n k u Q := by
  intro p e s m args below meth c H locs la X hR hL hl
  exact lv_if_le X.1 X.2.1 hd ht (fun q => kt ((iI_le0 hr).mp q) p e s m args below meth c H locs la X hR hL hl) (fun q => kf (fun z => q ((iI_le0 hr).mpr z)) p e s m args below meth c H locs la X hR hL hl)
end GROWS
