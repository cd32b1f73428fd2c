/-! THE LAW's own frame: the judgement LG and its rows -/
def LX (g : GC) (p : Program) (s : State) (m : MethodId) (meth : Method) (c : Code) (b L : Nat) (xs : Nat → Int32) : Prop :=
  p.tables.exec = Jvm.exec ∧ c.code = cL_law ∧ c.maxLocals = 4 ∧ meth.sig.returnType = ret ∧ meth.locks = false ∧ (∀ w ∈ W0, w.before #[Value.ref b] s = true) ∧ s.vm.findClass RL = some m.cls ∧ GK g s ∧ va_X b L xs s (gH0 g) ∧ (b < gB g ∧ L ≤ 3073 ∧ gB g = s.heap.size)
def LG (g : GC) (p : Program) (e : Env) (s : State) (m : MethodId) (below : List Frame) (meth : Method) (c : Code) (b pc : Nat) (ls : List (Nat × Value)) (st : List Value) (h : GA) (n k u : Nat) : Prop :=
  ∀ (H : Heap) (locs : List Loc) (la : Array Slot), Rp g h n H → (∀ q ∈ locs, gB g ≤ q.base) → lv_has la 4 ls → W p (gL g) e room_1 s m #[Value.ref b] below meth c H locs k u (lw_Z below #[Value.ref b] s) (F0 m pc la st)
def zs (xs : Nat → Int32) (j : Int) : Int := (xs j.toNat).toInt
theorem zs_bd {xs : Nat → Int32} {j : Int} : -2147483648 ≤ zs xs j ∧ zs xs j ≤ 2147483647 := by
  have h1 := Int32.le_toInt (xs j.toNat)
  have h2 := Int32.toInt_lt (xs j.toNat)
  unfold zs
  omega
def lsL (g : GC) (b : Nat) (i : Int) : List (Nat × Value) := [(3, .int (iI i)), (2, gr g 96), (1, gr g 0), (0, .ref b)]
section LROWS
variable {g : GC} {p : Program} {e : Env} {s : State} {m : MethodId} {below : List Frame} {meth : Method} {c : Code} {b L : Nat} {xs : Nat → Int32} {pc : Nat} {ls : List (Nat × Value)} {st : List Value} {h : GA} {n k u : Nat}
theorem LG_iconst {z : Int} (X : LX g p s m meth c b L xs) (hd : decode cL_law pc = .ok (.iconst z, 1))
    (kk : LG g p e s m below meth c b (pc + 1) ls (.int (iI z) :: st) h n k u) : LG g p e s m below meth c b pc ls st h n k u := by
  intro H locs la hR hL hl
  exact lv_iconst X.1 X.2.1 hd rfl (kk H locs la hR hL hl)
theorem LG_bipush {z : Int} (X : LX g p s m meth c b L xs) (hd : decode cL_law pc = .ok (.bipush z, 2)) (hz : (Int8.ofInt z).toInt32 = iI z)
    (kk : LG g p e s m below meth c b (pc + 2) ls (.int (iI z) :: st) h n k u) : LG g p e s m below meth c b pc ls st h n k u := by
  intro H locs la hR hL hl
  exact lv_bipush X.1 X.2.1 hd hz (kk H locs la hR hL hl)
theorem LG_aload {j : Fin 4} {v : Nat} (X : LX g p s m meth c b L xs) (hd : decode cL_law pc = .ok (.aload_n j, 1)) (hv : lk ls (j : Nat) = some (.ref v))
    (kk : LG g p e s m below meth c b (pc + 1) ls (.ref v :: st) h n k u) : LG g p e s m below meth c b pc ls st h n k u := by
  intro H locs la hR hL hl
  exact lv_aload_n X.1 X.2.1 hd rfl (lk_at hl hv) (kk H locs la hR hL hl)
theorem LG_iload {j : Fin 4} {v : Int32} (X : LX g p s m meth c b L xs) (hd : decode cL_law pc = .ok (.iload_n j, 1)) (hv : lk ls (j : Nat) = some (.int v))
    (kk : LG g p e s m below meth c b (pc + 1) ls (.int v :: st) h n k u) : LG g p e s m below meth c b pc ls st h n k u := by
  intro H locs la hR hL hl
  exact lv_iload_n X.1 X.2.1 hd rfl (lk_at hl hv) (kk H locs la hR hL hl)
theorem LG_istore {j : Fin 4} {v : Int32} {ls' : List (Nat × Value)} (X : LX g p s m meth c b L xs) (hd : decode cL_law pc = .ok (.istore_n j, 1)) (hn : (j : Nat) < 4) (he : lput ls (j : Nat) (.int v) = ls')
    (kk : LG g p e s m below meth c b (pc + 1) ls' st h n k u) : LG g p e s m below meth c b pc ls (.int v :: st) h n k u := by
  intro H locs la hR hL hl
  exact lv_istore_n X.1 X.2.1 hd rfl hl hn he (fun la hl => kk H locs la hR hL hl)
theorem LG_astore {j : Fin 4} {v : Nat} {ls' : List (Nat × Value)} (X : LX g p s m meth c b L xs) (hd : decode cL_law pc = .ok (.astore_n j, 1)) (hn : (j : Nat) < 4) (he : lput ls (j : Nat) (.ref v) = ls')
    (kk : LG g p e s m below meth c b (pc + 1) ls' st h n k u) : LG g p e s m below meth c b pc ls (.ref v :: st) h n k u := by
  intro H locs la hR hL hl
  exact lv_astore_n X.1 X.2.1 hd rfl hl hn he (fun la hl => kk H locs la hR hL hl)
theorem LG_iinc {j : Nat} {z a : Int} {ls' : List (Nat × Value)} (X : LX g p s m meth c b L xs) (hd : decode cL_law pc = .ok (.iinc j z, 3)) (hv : lk ls j = some (.int (iI a))) (hn : j < 4) (he : lput ls j (.int (iI (a + z))) = ls')
    (kk : LG g p e s m below meth c b (pc + 3) ls' st h n k u) : LG g p e s m below meth c b pc ls st h n k u := by
  intro H locs la hR hL hl
  obtain ⟨i, hi⟩ := lk_ix hv
  exact lv_iinc X.1 X.2.1 hd hl hi (by rw [iI_add]; rfl) hn he (fun la hl => kk H locs la hR hL hl)
theorem LG_iadd {x y : Int} (X : LX g p s m meth c b L xs) (hd : decode cL_law pc = .ok (.iadd, 1))
    (kk : LG g p e s m below meth c b (pc + 1) ls (.int (iI (x + y)) :: st) h n k u) : LG g p e s m below meth c b pc ls (.int (iI y) :: .int (iI x) :: st) h n k u := by
  intro H locs la hR hL hl
  rw [iI_add] at kk
  exact lv_iadd X.1 X.2.1 hd (kk H locs la hR hL hl)
theorem LG_isub {x y : Int} (X : LX g p s m meth c b L xs) (hd : decode cL_law pc = .ok (.isub, 1))
    (kk : LG g p e s m below meth c b (pc + 1) ls (.int (iI (x - y)) :: st) h n k u) : LG g p e s m below meth c b pc ls (.int (iI y) :: .int (iI x) :: st) h n k u := by
  intro H locs la hR hL hl
  rw [iI_sub] at kk
  exact lv_isub X.1 X.2.1 hd (kk H locs la hR hL hl)
theorem LG_iand {x y v : Int32} (X : LX g p s m meth c b L xs) (hd : decode cL_law pc = .ok (.iand, 1)) (hv : x &&& y = v)
    (kk : LG g p e s m below meth c b (pc + 1) ls (.int v :: st) h n k u) : LG g p e s m below meth c b pc ls (.int y :: .int x :: st) h n k u := by
  intro H locs la hR hL hl
  subst hv
  exact lv_iand X.1 X.2.1 hd (kk H locs la hR hL hl)
theorem LG_i2l {a : Int} (X : LX g p s m meth c b L xs) (hd : decode cL_law pc = .ok (.i2l, 1)) (hr : -2147483648 ≤ a ∧ a ≤ 2147483647)
    (kk : LG g p e s m below meth c b (pc + 1) ls (.long (iL a) :: st) h n k u) : LG g p e s m below meth c b pc ls (.int (iI a) :: st) h n k u := by
  intro H locs la hR hL hl
  exact lv_i2l X.1 X.2.1 hd (iI_toL hr) (kk H locs la hR hL hl)
theorem LG_lshl {a v : Int64} {d : Int32} (X : LX g p s m meth c b L xs) (hd : decode cL_law pc = .ok (.lshl, 1)) (hv : a <<< (d.toInt64 &&& 63) = v)
    (kk : LG g p e s m below meth c b (pc + 1) ls (.long v :: st) h n k u) : LG g p e s m below meth c b pc ls (.int d :: .long a :: st) h n k u := by
  intro H locs la hR hL hl
  exact lv_lshl X.1 X.2.1 hd hv (kk H locs la hR hL hl)
theorem LG_land {x y v : Int64} (X : LX g p s m meth c b L xs) (hd : decode cL_law pc = .ok (.land, 1)) (hv : x &&& y = v)
    (kk : LG g p e s m below meth c b (pc + 1) ls (.long v :: st) h n k u) : LG g p e s m below meth c b pc ls (.long y :: .long x :: st) h n k u := by
  intro H locs la hR hL hl
  subst hv
  exact lv_land X.1 X.2.1 hd (kk H locs la hR hL hl)
theorem LG_lor {x y v : Int64} (X : LX g p s m meth c b L xs) (hd : decode cL_law pc = .ok (.lor, 1)) (hv : x ||| y = v)
    (kk : LG g p e s m below meth c b (pc + 1) ls (.long v :: st) h n k u) : LG g p e s m below meth c b pc ls (.long y :: .long x :: st) h n k u := by
  intro H locs la hR hL hl
  subst hv
  exact lv_lor X.1 X.2.1 hd (kk H locs la hR hL hl)
theorem LG_ldc2 {ix : Nat} {v : Int64} (X : LX g p s m meth c b L xs) (hd : decode cL_law pc = .ok (.ldc2_w ix, 3)) (hc : Jvm.Cond.constantLong RL ix v ∈ W0)
    (kk : LG g p e s m below meth c b (pc + 3) ls (.long v :: st) h n k u) : LG g p e s m below meth c b pc ls st h n k u := by
  intro H locs la hR hL hl
  exact lv_ldc2 X.1 X.2.1 X.2.2.2.2.2.2.1 (X.2.2.2.2.2.1 _ hc) hd (kk H locs la hR hL hl)
theorem LG_dup {v : Value} (X : LX g p s m meth c b L xs) (hd : decode cL_law pc = .ok (.dup, 1)) (hc : v.category = 1)
    (kk : LG g p e s m below meth c b (pc + 1) ls (v :: v :: st) h n k u) : LG g p e s m below meth c b pc ls (v :: st) h n k u := by
  intro H locs la hR hL hl
  exact lv_dup X.1 X.2.1 hd hc (kk H locs la hR hL hl)
theorem LG_goto {off : Int} (t : Nat) (X : LX g p s m meth c b L xs) (hd : decode cL_law pc = .ok (.goto off, 3)) (ht : (pc : Int) + off = (t : Int))
    (kk : LG g p e s m below meth c b t ls st h n k u) : LG g p e s m below meth c b pc ls st h n k u := by
  intro H locs la hR hL hl
  exact lv_goto X.1 X.2.1 hd ht (kk H locs la hR hL hl)
theorem LG_icmp_gt {x y off : Int} (t : Nat) (X : LX g p s m meth c b L xs) (hd : decode cL_law pc = .ok (.if_icmp .gt off, 3)) (ht : (pc : Int) + off = (t : Int)) (hr : -2147483648 ≤ x ∧ x ≤ 2147483647 ∧ -2147483648 ≤ y ∧ y ≤ 2147483647)
    (kt : y < x → LG g p e s m below meth c b t ls st h n k u) (kf : ¬ (y < x) → LG g p e s m below meth c b (pc + 3) ls st h n k u) : LG g p e s m below meth c b pc ls (.int (iI y) :: .int (iI x) :: st) h n k u := by
  intro H locs la hR hL hl
  exact lv_icmp_gt X.1 X.2.1 hd ht (fun q => kt ((iI_lt ⟨hr.2.2.1, hr.2.2.2, hr.1, hr.2.1⟩).mp q) H locs la hR hL hl) (fun q => kf (fun z => q ((iI_lt ⟨hr.2.2.1, hr.2.2.2, hr.1, hr.2.1⟩).mpr z)) H locs la hR hL hl)
/-- both answers the same -/
theorem LG_same {v : Int32} {off : Int} (t : Nat) (X : LX g p s m meth c b L xs) (hd : decode cL_law pc = .ok (.if_icmp .eq off, 3)) (ht : (pc : Int) + off = (t : Int))
    (kk : LG g p e s m below meth c b t ls st h n k u) : LG g p e s m below meth c b pc ls (.int v :: .int v :: st) h n k u := by
  intro H locs la hR hL hl
  exact lv_icmp_eq X.1 X.2.1 hd ht (fun _ => kk H locs la hR hL hl) (fun q => absurd rfl q)
theorem LG_sameL {v : Int64} {off : Int} (t : Nat) (X : LX g p s m meth c b L xs) (hd : decode cL_law pc = .ok (.lcmp, 1)) (hd2 : decode cL_law (pc + 1) = .ok (.ifCond .eq off, 3)) (ht : ((pc + 1 : Nat) : Int) + off = (t : Int))
    (kk : LG g p e s m below meth c b t ls st h n k u) : LG g p e s m below meth c b pc ls (.long v :: .long v :: st) h n k u := by
  intro H locs la hR hL hl
  refine W.lcmp X.1 X.2.1 hd ?_
  have e1 : lg_cmp v v = 0 := by
    unfold lg_cmp
    rw [if_neg (fun q => by
      have q1 : v < v := q
      rw [Int64.lt_iff_toInt_lt] at q1
      omega), if_pos rfl]
  rw [e1]
  exact lv_if_eq X.1 X.2.1 hd2 ht (fun _ => kk H locs la hR hL hl) (fun q => absurd rfl q)
theorem LG_if_eq {a off : Int} (t : Nat) (X : LX g p s m meth c b L xs) (hd : decode cL_law pc = .ok (.ifCond .eq off, 3)) (ht : (pc : Int) + off = (t : Int)) (hr : -2147483648 ≤ a ∧ a ≤ 2147483647)
    (kt : a = 0 → LG g p e s m below meth c b t ls st h n k u) (kf : ¬ (a = 0) → LG g p e s m below meth c b (pc + 3) ls st h n k u) : LG g p e s m below meth c b pc ls (.int (iI a) :: st) h n k u := by
  intro H locs la hR hL hl
  exact lv_if_eq X.1 X.2.1 hd ht (fun q => kt ((iI_eq0 hr).mp q) H locs la hR hL hl) (fun q => kf (fun z => q ((iI_eq0 hr).mpr z)) H locs la hR hL hl)
theorem LG_tin {dflt lo hi : Int} {offs : Array Int} {len : Nat} {a off : Int} (j t : Nat) (X : LX g p s m meth c b L xs) (hd : decode cL_law pc = .ok (.tableswitch dflt lo hi offs, len)) (hr : -2147483648 ≤ a ∧ a ≤ 2147483647) (h1 : a = lo + j) (h2 : a ≤ hi) (ho : offs[j]? = some off) (ht : (pc : Int) + off = (t : Int))
    (kk : LG g p e s m below meth c b t ls st h n k u) : LG g p e s m below meth c b pc ls (.int (iI a) :: st) h n k u := by
  intro H locs la hR hL hl
  exact lv_tableIn X.1 X.2.1 hd (by rw [iI_toInt hr]; omega) (by rw [iI_toInt hr]; omega) (by rw [iI_toInt hr, show (a - lo).toNat = j by omega]; exact ho) ht (kk H locs la hR hL hl)
theorem LG_tout {dflt lo hi : Int} {offs : Array Int} {len : Nat} {a : Int} (t : Nat) (X : LX g p s m meth c b L xs) (hd : decode cL_law pc = .ok (.tableswitch dflt lo hi offs, len)) (hr : -2147483648 ≤ a ∧ a ≤ 2147483647) (h1 : a < lo ∨ hi < a) (ht : (pc : Int) + dflt = (t : Int))
    (kk : LG g p e s m below meth c b t ls st h n k u) : LG g p e s m below meth c b pc ls (.int (iI a) :: st) h n k u := by
  intro H locs la hR hL hl
  exact lv_tableOut X.1 X.2.1 hd (by rw [iI_toInt hr]; exact h1) ht (kk H locs la hR hL hl)
theorem LX_S {locs : List Loc} {H : Heap} (X : LX g p s m meth c b L xs) (hR : Rp g h n H) (hL : ∀ q ∈ locs, gB g ≤ q.base) : va_S (fun q => gB g ≤ q) (gH0 g) H locs :=
  ⟨by rw [← X.2.2.2.2.2.2.2.1.2.2.2.2.2, hR.1]; omega, fun q h1 h2 => hR.2.2 q (by rw [X.2.2.2.2.2.2.2.1.2.2.2.2.2]; exact h1), hL⟩
/-- an int of the script -/
theorem LG_sld {i : Int} (X : LX g p s m meth c b L xs) (hd : decode cL_law pc = .ok (.iaload, 1)) (hi : 0 ≤ i ∧ i < L)
    (kk : LG g p e s m below meth c b (pc + 1) ls (.int (iI (zs xs i)) :: st) h n k u) : LG g p e s m below meth c b pc ls (.int (iI i) :: .ref b :: st) h n k u := by
  intro H locs la hR hL hl
  have hLb := X.2.2.2.2.2.2.2.2.2.2.1
  have hb := X.2.2.2.2.2.2.2.2.2.1
  have hsz := X.2.2.2.2.2.2.2.1.2.2.2.2.2
  refine va_sld X.1 X.2.1 X.2.2.2.2.2.2.2.2.1 (by omega) (by show ¬ gB g ≤ b; omega) (LX_S X hR hL) (in_vp (N := L) (by omega)) hd ?_
  have e1 : xs (iI i).toNatClampNeg = iI (zs xs i) := by
    rw [iI_clamp (by omega)]
    exact (iI_of _).symm
  rw [e1]
  exact kk H locs la hR hL hl
theorem LG_slen (X : LX g p s m meth c b L xs) (hd : decode cL_law pc = .ok (.arraylength, 1))
    (kk : LG g p e s m below meth c b (pc + 1) ls (.int (iI (L : Int)) :: st) h n k u) : LG g p e s m below meth c b pc ls (.ref b :: st) h n k u := by
  intro H locs la hR hL hl
  have hLb := X.2.2.2.2.2.2.2.2.2.2.1
  have hb := X.2.2.2.2.2.2.2.2.2.1
  have hsz := X.2.2.2.2.2.2.2.1.2.2.2.2.2
  refine va_slen X.1 X.2.1 X.2.2.2.2.2.2.2.2.1 (by omega) (by show ¬ gB g ≤ b; omega) (LX_S X hR hL) hd ?_
  have e1 : Int32.ofNat L = iI (L : Int) := (iI_nI L).symm
  rw [e1]
  exact kk H locs la hR hL hl
/-- the end, with 1 -/
theorem LG_end (X : LX g p s m meth c b L xs) (hd : decode cL_law pc = .ok (.ireturn, 1)) (hcs : k ≤ 600000 ∧ u ≤ 7302250) : LG g p e s m below meth c b pc ls [.int (iI 1)] h n k u := by
  intro H locs la hR hL hl
  have hsz := X.2.2.2.2.2.2.2.2.2.2.2
  refine va_forget (fun q hq => by rw [← hsz]; exact hL q hq) ?_
  refine W.widen hcs.1 hcs.2 ?_
  exact lw_ret X.1 X.2.1 X.2.2.2.1 X.2.2.2.2.1 hd
theorem LG_run {a : Array Value} {H : Heap} {locs : List Loc} {la : Array Slot} {mc2 ms2 : Nat} {rest st0 : List Value}
    (hL : ∀ q ∈ locs, gB g ≤ q.base) (hl : lv_has la 4 ls)
    (hr : va_Run p (gL g) e room_1 s m #[Value.ref b] below meth c H locs k u mc2 ms2 (F0 m pc la st0) rest (gQ g (fun v h' n' => LG g p e s m below meth c b (pc + 3) ls (v.toList ++ rest) h' n' (k + mc2) (u + ms2)) a) (fun q => gB g ≤ q)) :
    W p (gL g) e room_1 s m #[Value.ref b] below meth c H locs k u (lw_Z below #[Value.ref b] s) (F0 m pc la st0) := by
  intro T hT XX
  obtain ⟨v, st₀, t, T', L', h0, X', hL', e1, e2, ⟨v', h', n', hv, hR', hq⟩, st'⟩ := hr T hT XX
  cases hv
  have hR2 : Rp g h' n' T'.heap := by rw [e1]; exact hR'
  obtain ⟨t2, a1, b1⟩ := hq T'.heap (locs ++ L') la hR2 (fun q hq => (List.mem_append.mp hq).elim (hL q) (hL' q)) hl T' rfl X'
  exact ⟨t2, st' t2 a1, b1⟩
theorem LG_room {d2 a2 b2 : Nat} {y2 : GM} (hd : d2 ≤ 60 ∧ y2.2.2.1 ≤ 41) : (grm d2 a2 b2).frames + 1 ≤ room_1.frames ∧ 8 + (y2.2.2.1 + 11) + (grm d2 a2 b2).locals ≤ room_1.locals := by
  unfold grm room_1
  dsimp only
  omega
theorem LG_callV {y2 : GM} {ix np d2 mc2 ms2 b2 ci N : Nat} {sh : SH} {S : SS} {As rest : List Value} {T : u_T} (X : LX g p s m meth c b L xs) (hd : decode cL_law pc = .ok (.invokevirtual ix, 3)) (hC : GCode y2 np) (hV : GVirt RL ix y2) (hb : sh b2 = some (.inl ci)) (hc : vwCl[ci]? = some (y2.1.cls, T, N)) (hnp : As.length = np) (hst : st = As.reverse ++ gr g b2 :: rest)
    (hrest : (rest.map fun v => v.category).sum ≤ 8) (hdp : d2 ≤ 60 ∧ y2.2.2.1 ≤ 41) (hcs : k + mc2 ≤ 600000 ∧ u + ms2 ≤ 7302250)
    (kk : GCall g y2 d2 mc2 ms2 (gr g b2 :: As) (hp g sh S) n (fun v h' n' => LG g p e s m below meth c b (pc + 3) ls (v.toList ++ rest) h' n' (k + mc2) (u + ms2))) : LG g p e s m below meth c b pc ls st (hp g sh S) n k u := by
  intro H locs la hR hL hl
  subst hst
  have hts := X.2.2.2.2.2.1
  have hK := X.2.2.2.2.2.2.2.1
  refine LG_run hL hl (va_runV (C := y2.1.cls) (Ts := W0) (b := gB g + b2) (As := As) (own := RL) ⟨X.1, X.2.1, X.2.2.1, X.2.2.2.2.2.2.1, hts⟩ kk ⟨callB_of np hts (gws_good hC.1) rfl rfl rfl (hts _ hC.2.1) (hts _ hV.1) hC.2.2 (LG_room hdp), hts _ hV.2.1, hts _ hV.2.2⟩ ⟨GBlind, va_recv (q0 := 0) (fs := fvs g S ci b2) hK.1 (hR.P (hp_at hb)) hc rfl, fun U hU hW => ⟨rfl, by rw [hU]; exact hR, hK.warm hW (by rw [hU, hR.1]; exact Nat.le_add_right _ _)⟩⟩ rfl hnp (hl.1) rfl (lv_room hrest) hd hcs)
theorem LG_callI {y2 : GM} {ix np d2 mc2 ms2 b2 : Nat} {As rest : List Value} (X : LX g p s m meth c b L xs) (hd : decode cL_law pc = .ok (.invokespecial ix, 3)) (hC : GCode y2 np) (hV : GSpec RL ix y2) (hnp : As.length = np) (hst : st = As.reverse ++ gr g b2 :: rest)
    (hrest : (rest.map fun v => v.category).sum ≤ 8) (hdp : d2 ≤ 60 ∧ y2.2.2.1 ≤ 41) (hcs : k + mc2 ≤ 600000 ∧ u + ms2 ≤ 7302250)
    (kk : GCall g y2 d2 mc2 ms2 (gr g b2 :: As) h n (fun v h' n' => LG g p e s m below meth c b (pc + 3) ls (v.toList ++ rest) h' n' (k + mc2) (u + ms2))) : LG g p e s m below meth c b pc ls st h n k u := by
  intro H locs la hR hL hl
  subst hst
  have hts := X.2.2.2.2.2.1
  have hK := X.2.2.2.2.2.2.2.1
  have hC1 := hC.1
  have hgood := gws_good hC1
  obtain ⟨v1, v2, v3, v4⟩ := hV
  rw [v4] at hC1
  refine LG_run hL hl (va_runI (Ts := W0) (b := gB g + b2) (As := As) (own := RL) (maxL := y2.2.2.1) (bytes := y2.2.1) ⟨X.1, X.2.1, X.2.2.1, X.2.2.2.2.2.2.1, hts⟩ kk ⟨callB_of (ws' := W0) np hts hgood (by unfold gws; rw [v4]) rfl rfl (hts _ hC.2.1) (hts _ v1) hC.2.2 (LG_room hdp), v3, hts _ v2⟩ ⟨GBlind, fun U hU hW => ⟨rfl, by rw [hU]; exact hR, hK.warm hW (by rw [hU, hR.1]; exact Nat.le_add_right _ _)⟩⟩ rfl hnp (hl.1) rfl (lv_room hrest) hd hcs)
theorem LG_new {ci ix N : Nat} {C : String} {T : u_T} {ty : Nat → FieldType} {fs : List Value} (X : LX g p s m meth c b L xs) (hd : decode cL_law pc = .ok (.new ix, 3)) (hG : GCls ci C T N ty) (hcl : Cond.classLink RL ix C ∈ W0) (hin : Cond.instantiable C N ∈ W0) (hini : Cond.initialized C ∈ W0) (hfs : ∀ j, j < N → defaultValue (ty j) = vp_V fs j) (hcs : k + 1 ≤ 600000 ∧ u + N ≤ 7302250)
    (kk : LG g p e s m below meth c b (pc + 3) ls (gr g n :: st) (gup h n (gO ci fs)) (n + 1) (k + 1) (u + N)) : LG g p e s m below meth c b pc ls st h n k u := by
  intro H locs la hR hL hl
  obtain ⟨c1, c2, c3, c4⟩ := hG
  have hts := X.2.2.2.2.2.1
  have hKn := X.2.2.2.2.2.2.2.1.1.1 ci _ c1
  refine W.newcK X.1 X.2.1 X.2.2.2.2.2.2.1 (hts _ hcl) (hts _ hin) (hts _ hini) rfl hd hcs.1 hcs.2 hKn.2.1 rfl fun H1 kC hkC e1 z1 o1 => ?_
  have hz := hR.1
  have hat : va_at (gD g) vwCl (gB g + n, gO ci fs) H1 := by
    rw [← hz]
    exact ⟨_, c1, (u_born ty hts c2 hKn hkC e1 c3).to hfs⟩
  rw [hz]
  exact kk H1 locs la (hR.push hat z1 o1) hL hl
/-- an argument of a call: script[i + d] -/
theorem LG_arg {i d : Int} (X : LX g p s m meth c b L xs) (d0 : decode cL_law pc = .ok (.aload_n 0, 1)) (d1 : decode cL_law (pc + 1) = .ok (.iload_n 3, 1)) (d2 : decode cL_law (pc + 2) = .ok (.iconst d, 1)) (d3 : decode cL_law (pc + 3) = .ok (.iadd, 1)) (d4 : decode cL_law (pc + 4) = .ok (.iaload, 1)) (hi : 1 ≤ i ∧ i + 5 < L) (hd : 1 ≤ d ∧ d ≤ 5)
    (kk : LG g p e s m below meth c b (pc + 5) (lsL g b i) (.int (iI (zs xs (i + d))) :: st) h n k u) : LG g p e s m below meth c b pc (lsL g b i) st h n k u := by
  refine LG_aload X d0 rfl ?_
  refine LG_iload X d1 rfl ?_
  refine LG_iconst X d2 ?_
  refine LG_iadd X d3 ?_
  exact LG_sld X d4 (by omega) kk
/-- feed's long -/
def fzL (a d : Int) : Int64 := (iL a <<< ((iI 32).toInt64 &&& 63)) ||| (iL d &&& 4294967295)
theorem LG_long {i : Int} (X : LX g p s m meth c b L xs) (a0 : decode cL_law pc = .ok (.aload_n 0, 1)) (a1 : decode cL_law (pc + 1) = .ok (.iload_n 3, 1)) (a2 : decode cL_law (pc + 2) = .ok (.iconst 2, 1)) (a3 : decode cL_law (pc + 3) = .ok (.iadd, 1)) (a4 : decode cL_law (pc + 4) = .ok (.iaload, 1)) (a5 : decode cL_law (pc + 5) = .ok (.i2l, 1)) (a6 : decode cL_law (pc + 6) = .ok (.bipush 32, 2)) (a8 : decode cL_law (pc + 8) = .ok (.lshl, 1))
    (b0 : decode cL_law (pc + 9) = .ok (.aload_n 0, 1)) (b1 : decode cL_law (pc + 10) = .ok (.iload_n 3, 1)) (b2 : decode cL_law (pc + 11) = .ok (.iconst 3, 1)) (b3 : decode cL_law (pc + 12) = .ok (.iadd, 1)) (b4 : decode cL_law (pc + 13) = .ok (.iaload, 1)) (b5 : decode cL_law (pc + 14) = .ok (.i2l, 1)) (b6 : decode cL_law (pc + 15) = .ok (.ldc2_w 61, 3)) (b7 : decode cL_law (pc + 18) = .ok (.land, 1)) (b8 : decode cL_law (pc + 19) = .ok (.lor, 1)) (hi : 1 ≤ i ∧ i + 5 < L)
    (kk : LG g p e s m below meth c b (pc + 20) (lsL g b i) (.long (fzL (zs xs (i + 2)) (zs xs (i + 3))) :: st) h n k u) : LG g p e s m below meth c b pc (lsL g b i) st h n k u := by
  refine LG_arg X a0 a1 a2 a3 a4 hi (by decide) ?_
  refine LG_i2l X a5 zs_bd ?_
  refine LG_bipush X a6 rfl ?_
  refine LG_lshl X a8 rfl ?_
  refine LG_arg X b0 b1 b2 b3 b4 hi (by decide) ?_
  refine LG_i2l X b5 zs_bd ?_
  refine LG_ldc2 X b6 coL_61 ?_
  refine LG_land X b7 rfl ?_
  refine LG_lor X b8 rfl ?_
  exact kk
/-- divide's boolean -/
theorem LG_flag {i : Int} (X : LX g p s m meth c b L xs) (a0 : decode cL_law pc = .ok (.aload_n 0, 1)) (a1 : decode cL_law (pc + 1) = .ok (.iload_n 3, 1)) (a2 : decode cL_law (pc + 2) = .ok (.iconst 4, 1)) (a3 : decode cL_law (pc + 3) = .ok (.iadd, 1)) (a4 : decode cL_law (pc + 4) = .ok (.iaload, 1)) (a5 : decode cL_law (pc + 5) = .ok (.ifCond .eq 7, 3)) (a8 : decode cL_law (pc + 8) = .ok (.iconst 1, 1)) (a9 : decode cL_law (pc + 9) = .ok (.goto 4, 3)) (b2 : decode cL_law (pc + 12) = .ok (.iconst 0, 1)) (hi : 1 ≤ i ∧ i + 5 < L)
    (kk : ∀ fl : Int, (0 ≤ fl ∧ fl ≤ 1) → fl = (if zs xs (i + 4) = 0 then 0 else 1) → LG g p e s m below meth c b (pc + 13) (lsL g b i) (.int (iI fl) :: st) h n k u) : LG g p e s m below meth c b pc (lsL g b i) st h n k u := by
  refine LG_arg X a0 a1 a2 a3 a4 hi (by decide) ?_
  refine LG_if_eq (pc + 12) X a5 (by omega) zs_bd (fun q => ?_) (fun q => ?_)
  · refine LG_iconst X b2 ?_
    exact kk 0 (by decide) (by rw [if_pos q])
  · refine LG_iconst X a8 ?_
    refine LG_goto (pc + 13) X a9 (by omega) ?_
    exact kk 1 (by decide) (by rw [if_neg q])
end LROWS
