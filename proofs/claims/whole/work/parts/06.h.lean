/-! rows of G over the abstract heap: fields, arrays, makings, calls, ends -/
theorem Rp.P {g : GC} {h : GA} {n : Nat} {H : Heap} {a : Nat} {e : va_E} (hR : Rp g h n H) (he : h a = some e) : va_P (gD g) vwCl [(gB g + a, e)] H := by
  intro k q hq
  have hz : k < 1 := (List.getElem?_eq_some_iff.mp hq).1
  rw [show k = 0 by omega] at hq
  cases hq
  exact hR.2.1 a e he
theorem Rp.D (g : GC) (a : Nat) (e : va_E) : va_D (fun q => gB g ≤ q) [(gB g + a, e)] := by
  refine ⟨fun i j p q hi hj _ => ?_, fun k q hq => ?_⟩
  · have h1 : i < 1 := (List.getElem?_eq_some_iff.mp hi).1
    have h2 : j < 1 := (List.getElem?_eq_some_iff.mp hj).1
    omega
  · have hz : k < 1 := (List.getElem?_eq_some_iff.mp hq).1
    rw [show k = 0 by omega] at hq
    cases hq
    exact Nat.le_add_right _ _
theorem Rp.up {g : GC} {h : GA} {n : Nat} {H H1 : Heap} {a : Nat} {e0 e : va_E} (hR : Rp g h n H) (h0 : h a = some e0) (he : va_at (gD g) vwCl (gB g + a, e) H1) (z : H1.size = H.size) (oq : ∀ q : Nat, q ≠ gB g + a → H1[q]? = H[q]?) : Rp g (gup h a e) n H1 := by
  refine ⟨z.trans hR.1, fun k e' hk => ?_, fun q hq => (oq q (by omega)).trans (hR.2.2 q hq)⟩
  unfold gup at hk
  by_cases hka : k = a
  · rw [if_pos hka] at hk
    cases hk
    rw [hka]
    exact he
  · rw [if_neg hka] at hk
    exact (hR.2.1 k e' hk).kept (oq _ (by show gB g + k ≠ gB g + a; omega))
theorem Rp.lt {g : GC} {h : GA} {n : Nat} {H : Heap} {a : Nat} {e : va_E} (hR : Rp g h n H) (he : h a = some e) : a < n := by
  have h1 := (hR.2.1 a e he).lt
  have h2 := hR.1
  have h3 : gB g + a < H.size := h1
  omega
/-- a new cell -/
theorem Rp.push {g : GC} {h : GA} {n : Nat} {H H1 : Heap} {e : va_E} (hR : Rp g h n H) (he : va_at (gD g) vwCl (gB g + n, e) H1) (z : H1.size = H.size + 1) (oq : ∀ q : Nat, q < H.size → H1[q]? = H[q]?) : Rp g (gup h n e) (n + 1) H1 := by
  have hs := hR.1
  refine ⟨by omega, fun k e' hk => ?_, fun q hq => (oq q (by omega)).trans (hR.2.2 q hq)⟩
  unfold gup at hk
  by_cases hka : k = n
  · rw [if_pos hka] at hk
    cases hk
    rw [hka]
    exact he
  · rw [if_neg hka] at hk
    have := hR.lt hk
    exact (hR.2.1 k e' hk).kept (oq _ (by show gB g + k < H.size; omega))
def GCls (ci : Nat) (C : String) (T : u_T) (N : Nat) (ty : Nat → FieldType) : Prop := vwCl[ci]? = some (C, T, N) ∧ (∀ w ∈ u_ws C T N, w ∈ W0) ∧ (∀ k, k < N → parseFieldDescriptor (T k).2.2.1 = some (ty k)) ∧ (∀ a, a < N → ∀ b, b < N → a ≠ b → (T a).2.1 ≠ (T b).2.1)
def GFld (own : String) (ix ci f : Nat) (fin : Bool) (ft : FieldType) : Prop := ∃ (T : u_T) (N : Nat) (ty : Nat → FieldType), GCls ci own T N ty ∧ f < N ∧ (T f).1 = own ∧ Cond.fieldLink own ix own (T f).2.1 (T f).2.2.1 ∈ W0 ∧ (T f).2.2.2 = fin ∧ ty f = ft
section HROWS
variable {g : GC} {y : GM} {d mc ms pc : Nat} {ls : List (Nat × Value)} {st : List Value} {h : GA} {n k u : Nat} {Q : Option Value → GA → Nat → Prop}
theorem G_getf {a ix ci f : Nat} {fin : Bool} {ft : FieldType} {fs : List Value} {v : Value} (hd : decode y.2.1 pc = .ok (.getfield ix, 3)) (hF : GFld y.1.cls ix ci f fin ft) (he : h a = some (gO ci fs)) (hv : fs[f]? = some v)
    (kk : G g y d mc ms (pc + 3) ls (v :: st) h n k u Q) : G g y d mc ms pc ls (gr g a :: st) h n k u Q := by
  intro p e s m args below meth c H locs la X hR hL hl
  obtain ⟨T, N, ty, ⟨c1, c2, c3, c4⟩, hf, ho, hlk, -, -⟩ := hF
  exact va_get (D := gD g) (cl := vwCl) (ws := [(gB g + a, gO ci fs)]) (tys := gtys g) X.1 X.2.1 X.2.2.2.2.2.1 c2 X.2.2.2.2.2.2.1 X.2.2.2.2.2.2.2.2.1 (hR.P he) 0 rfl c1 f hf (X.2.2.2.2.2.1 _ hlk) (fun x hx => by rw [← hx, ho]) hv hd (kk p e s m args below meth c H locs la X hR hL hl)
theorem G_putf {a ix ci f : Nat} {ft : FieldType} {fs : List Value} {v : Value} (hd : decode y.2.1 pc = .ok (.putfield ix, 3)) (hF : GFld y.1.cls ix ci f false ft) (he : h a = some (gO ci fs)) (hl' : f < fs.length) (hn : narrow ft v = v ∧ fits ft v = true)
    (kk : G g y d mc ms (pc + 3) ls st (gup h a (gO ci (fs.set f v))) n k u Q) : G g y d mc ms pc ls (v :: gr g a :: st) h n k u Q := by
  intro p e s m args below meth c H locs la X hR hL hl
  obtain ⟨T, N, ty, ⟨c1, c2, c3, c4⟩, hf, ho, hlk, hfin, hft⟩ := hF
  have hts := X.2.2.2.2.2.1
  have hK := X.2.2.2.2.2.2.2.2.1
  have hap := va_apart (own := y.1.cls) hts c2 ty c3 c4 hK c1
  obtain ⟨r, h1, cell, q1, q2, q3, q4⟩ := hR.P he 0 _ rfl
  have hr : r = (y.1.cls, T, N) := Option.some.inj (h1.symm.trans c1)
  subst hr
  obtain ⟨hS, hfc, kC, hkC, hkind⟩ := hK.1 ci _ c1
  obtain ⟨cf, kf, fi, fd, hi, hsl⟩ := hS f hf
  have hlay := hts _ (c2 _ (u_in_lay hf))
  unfold u_lay at hlay
  rw [if_neg (by rw [hfin]; decide)] at hlay
  have hst := (u_facts hfc hkC (u_lays hts c2 hf) hi).1
  have h6 := u_store hfc hkC hkind hlay hi (c3 f hf) (by rw [hft]; exact hn.1) (by rw [hft]; exact hn.2)
  rw [ho] at hi
  refine W.putK X.1 X.2.1 (f := fd) ⟨X.2.2.2.2.2.2.1, hts _ hlk, ⟨_, _, _, hi⟩, hst⟩ (by rw [q2]; exact h6) q1 q3 (by rw [hsl]; exact k2_hasslot (q4 f hf)) rfl rfl hd fun H' e1 e2 e3 => ?_
  rw [hsl] at e1 ⊢
  refine kk p e s m args below meth c H' _ la X (hR.up he ⟨_, c1, t_OB.to (V := updV (vp_V fs) f v) ⟨_, e1, q2, q3, t_set q4 hap hf v⟩ (fun j _ => vp_updV_set hl' v j)⟩ e2 e3) (fun q hq => ?_) hl
  rcases List.mem_append.mp hq with hq | hq
  · exact hL q hq
  · rw [List.mem_singleton.mp hq]
    exact Nat.le_add_right _ _
theorem G_putfF {a ix ci f : Nat} {ft : FieldType} {fs : List Value} {v : Value} (hd : decode y.2.1 pc = .ok (.putfield ix, 3)) (hF : GFld y.1.cls ix ci f true ft) (hin : y.1.name = "<init>") (he : h a = some (gO ci fs)) (hl' : f < fs.length) (hn : narrow ft v = v ∧ fits ft v = true)
    (kk : G g y d mc ms (pc + 3) ls st (gup h a (gO ci (fs.set f v))) n k u Q) : G g y d mc ms pc ls (v :: gr g a :: st) h n k u Q := by
  intro p e s m args below meth c H locs la X hR hL hl
  obtain ⟨T, N, ty, ⟨c1, c2, c3, c4⟩, hf, ho, hlk, hfin, hft⟩ := hF
  have hts := X.2.2.2.2.2.1
  have hK := X.2.2.2.2.2.2.2.2.1
  have hown := X.2.2.2.2.2.2.1
  have hap := va_apart (own := y.1.cls) hts c2 ty c3 c4 hK c1
  obtain ⟨r, h1, cell, q1, q2, q3, q4⟩ := hR.P he 0 _ rfl
  have hr : r = (y.1.cls, T, N) := Option.some.inj (h1.symm.trans c1)
  subst hr
  obtain ⟨hS, hfc, kC, hkC, hkind⟩ := hK.1 ci _ c1
  obtain ⟨cf, kf, fi, fd, hi, hsl⟩ := hS f hf
  have hlay := hts _ (c2 _ (u_in_lay hf))
  unfold u_lay at hlay
  rw [if_pos hfin] at hlay
  have hst := (u_facts hfc hkC (u_lays hts c2 hf) hi).1
  have h6 := u_fits hfc hkC hkind (Or.inr hlay) hi (c3 f hf) (by rw [hft]; exact hn.1) (by rw [hft]; exact hn.2)
  have hcf : m.cls = cf := by
    obtain ⟨_, _, c', _, _, _, -, -, hf', -, -, -, hown2, -⟩ := Cond.laysFinal_spec hlay
    have e1 : c' = cf := by have := hi.symm.trans hf'; simp at this; exact this.1.symm
    rw [ho] at hown2
    rw [← e1]; exact Option.some.inj (hown.symm.trans hown2)
  rw [ho] at hi
  refine W.putFinK X.1 X.2.1 hown (hts _ hlk) hi hst hcf (X.2.2.2.2.2.2.2.1.trans hin) (by rw [q2]; exact h6) q1 q3 (by rw [hsl]; exact k2_hasslot (q4 f hf)) rfl rfl hd fun H' e1 e2 e3 => ?_
  rw [hsl] at e1 ⊢
  refine kk p e s m args below meth c H' _ la X (hR.up he ⟨_, c1, t_OB.to (V := updV (vp_V fs) f v) ⟨_, e1, q2, q3, t_set q4 hap hf v⟩ (fun j _ => vp_updV_set hl' v j)⟩ e2 e3) (fun q hq => ?_) hl
  rcases List.mem_append.mp hq with hq | hq
  · exact hL q hq
  · rw [List.mem_singleton.mp hq]
    exact Nat.le_add_right _ _
theorem in_vp {i : Int} {N : Nat} (hi : 0 ≤ i ∧ i < N ∧ (N : Int) ≤ 2147483647) : vp_in (iI i) N := by
  rw [vp_in_iff, iI_toInt ⟨by omega, by omega⟩]
  exact ⟨hi.1, hi.2.1⟩
theorem gAi_at {xs : Int → Int} {i : Int} {N : Nat} (hi : 0 ≤ i ∧ i < N ∧ (N : Int) ≤ 2147483647) : gAi xs (iI i).toNatClampNeg = iI (xs i) := by
  unfold gAi
  rw [iI_clamp ⟨by omega, by omega⟩, Int.toNat_of_nonneg hi.1]
theorem gAl_at {xs : Int → Int} {i : Int} {N : Nat} (hi : 0 ≤ i ∧ i < N ∧ (N : Int) ≤ 2147483647) : gAl xs (iI i).toNatClampNeg = iL (xs i) := by
  unfold gAl
  rw [iI_clamp ⟨by omega, by omega⟩, Int.toNat_of_nonneg hi.1]
theorem gAr_at {xs : Int → Option Nat} {i : Int} {N : Nat} (hi : 0 ≤ i ∧ i < N ∧ (N : Int) ≤ 2147483647) : gAr g xs (iI i).toNatClampNeg = (xs i).map (fun k => gB g + k) := by
  unfold gAr
  rw [iI_clamp ⟨by omega, by omega⟩, Int.toNat_of_nonneg hi.1]
theorem G_iald {a N : Nat} {xs : Int → Int} {i : Int} (hd : decode y.2.1 pc = .ok (.iaload, 1)) (he : h a = some (gI g 1 N xs)) (hi : 0 ≤ i ∧ i < N ∧ (N : Int) ≤ 2147483647)
    (kk : G g y d mc ms (pc + 1) ls (.int (iI (xs i)) :: st) h n k u Q) : G g y d mc ms pc ls (.int (iI i) :: gr g a :: st) h n k u Q := by
  intro p e s m args below meth c H locs la X hR hL hl
  rw [← gAi_at hi] at kk
  exact va_iald X.1 X.2.1 X.2.2.2.2.2.2.2.2.1 (hR.P he) 0 1 rfl rfl (in_vp hi) hd (kk p e s m args below meth c H locs la X hR hL hl)
theorem G_bald {a N : Nat} {xs : Int → Int} {i : Int} (hd : decode y.2.1 pc = .ok (.baload, 1)) (he : h a = some (gI g 0 N xs)) (hi : 0 ≤ i ∧ i < N ∧ (N : Int) ≤ 2147483647)
    (kk : G g y d mc ms (pc + 1) ls (.int (iI (xs i)) :: st) h n k u Q) : G g y d mc ms pc ls (.int (iI i) :: gr g a :: st) h n k u Q := by
  intro p e s m args below meth c H locs la X hR hL hl
  rw [← gAi_at hi] at kk
  exact va_bald X.1 X.2.1 X.2.2.2.2.2.2.2.2.1 (hR.P he) 0 0 rfl rfl (in_vp hi) hd (kk p e s m args below meth c H locs la X hR hL hl)
theorem G_zald {a N : Nat} {xs : Int → Int} {i : Int} (hd : decode y.2.1 pc = .ok (.baload, 1)) (he : h a = some (gI g 3 N xs)) (hi : 0 ≤ i ∧ i < N ∧ (N : Int) ≤ 2147483647)
    (kk : G g y d mc ms (pc + 1) ls (.int (iI (xs i)) :: st) h n k u Q) : G g y d mc ms pc ls (.int (iI i) :: gr g a :: st) h n k u Q := by
  intro p e s m args below meth c H locs la X hR hL hl
  rw [← gAi_at hi] at kk
  exact va_zald X.1 X.2.1 X.2.2.2.2.2.2.2.2.1 (hR.P he) 0 3 rfl rfl (in_vp hi) hd (kk p e s m args below meth c H locs la X hR hL hl)
theorem G_lald {a N : Nat} {xs : Int → Int} {i : Int} (hd : decode y.2.1 pc = .ok (.laload, 1)) (he : h a = some (gJ g N xs)) (hi : 0 ≤ i ∧ i < N ∧ (N : Int) ≤ 2147483647)
    (kk : G g y d mc ms (pc + 1) ls (.long (iL (xs i)) :: st) h n k u Q) : G g y d mc ms pc ls (.int (iI i) :: gr g a :: st) h n k u Q := by
  intro p e s m args below meth c H locs la X hR hL hl
  rw [← gAl_at hi] at kk
  exact va_lald X.1 X.2.1 X.2.2.2.2.2.2.2.2.1 (hR.P he) 0 2 rfl rfl (in_vp hi) hd (kk p e s m args below meth c H locs la X hR hL hl)
theorem G_aald {a N t : Nat} {C : String} {xs : Int → Option Nat} {i : Int} {v : Value} (hd : decode y.2.1 pc = .ok (.aaload, 1)) (he : h a = some (gR g t N xs)) (ht : (gtys g)[t]? = some (gY g t, .object C)) (hi : 0 ≤ i ∧ i < N ∧ (N : Int) ≤ 2147483647) (hv : va_rf ((xs i).map (fun k => gB g + k)) = v)
    (kk : G g y d mc ms (pc + 1) ls (v :: st) h n k u Q) : G g y d mc ms pc ls (.int (iI i) :: gr g a :: st) h n k u Q := by
  intro p e s m args below meth c H locs la X hR hL hl
  rw [← hv, ← gAr_at hi] at kk
  exact va_aldq X.1 X.2.1 X.2.2.2.2.2.2.2.2.1 (hR.P he) 0 t rfl ht (in_vp hi) hd (kk p e s m args below meth c H locs la X hR hL hl)
theorem G_alen {a N t : Nat} {x : Nat × ((Nat → Int32) ⊕ (Nat → Int64) ⊕ (Nat → UInt32) ⊕ (Nat → UInt64) ⊕ (Nat → Option Nat))} {ty : FieldType} (hd : decode y.2.1 pc = .ok (.arraylength, 1)) (he : h a = some (.inl (gY g t, x))) (ht : (gtys g)[t]? = some (gY g t, ty)) (hN : x.1 = N)
    (kk : G g y d mc ms (pc + 1) ls (.int (iI N) :: st) h n k u Q) : G g y d mc ms pc ls (gr g a :: st) h n k u Q := by
  intro p e s m args below meth c H locs la X hR hL hl
  subst hN
  exact va_alen X.1 X.2.1 X.2.2.2.2.2.2.2.2.1 (hR.P he) 0 t rfl ht (by rfl) hd (kk p e s m args below meth c H locs la X hR hL hl)
theorem upd_gAi {xs : Int → Int} {i v : Int} {N : Nat} (hi : 0 ≤ i ∧ i < N ∧ (N : Int) ≤ 2147483647) : upd (gAi xs) (iI i).toNatClampNeg (iI v) = gAi (iup xs i v) := by
  funext q
  rw [iI_clamp ⟨by omega, by omega⟩]
  unfold upd gAi iup
  by_cases hq : q = i.toNat
  · rw [if_pos hq, if_pos (by omega)]
  · rw [if_neg hq, if_neg (by omega)]
theorem G_iast {a N : Nat} {xs : Int → Int} {i v : Int} (hd : decode y.2.1 pc = .ok (.iastore, 1)) (he : h a = some (gI g 1 N xs)) (hi : 0 ≤ i ∧ i < N ∧ (N : Int) ≤ 2147483647)
    (kk : G g y d mc ms (pc + 1) ls st (gup h a (gI g 1 N (iup xs i v))) n k u Q) : G g y d mc ms pc ls (.int (iI v) :: .int (iI i) :: gr g a :: st) h n k u Q := by
  intro p e s m args below meth c H locs la X hR hL hl
  have hin := in_vp hi
  refine W.iast X.1 X.2.1 (hR.P he 0 _ rfl) ((X.2.2.2.2.2.2.2.2.1.2 1 _ rfl).1 N (fun j => .int (gAi xs j))) (fun q => by cases q) (by show ¬ (iI i < 0 ∨ (arrV _ _ _).slots.size ≤ _); rw [arrV_size]; exact hin) rfl rfl hd fun H1 e z oq => ?_
  refine kk p _ s m args below meth c H1 _ la X (hR.up he ?_ z oq) (fun q hq => ?_) hl
  · show H1[gB g + a]? = some (vp_cell _ _)
    rw [e]
    rw [vp_cell_i, vp_cell_i, arrV_store, ← upd_gAi hi]
    congr 2
    funext q
    by_cases hq : q = (iI i).toNatClampNeg
    · subst hq
      simp [updV, upd]
    · simp [updV, upd, hq]
  · rcases List.mem_append.mp hq with hq | hq
    · exact hL q hq
    · rw [List.mem_singleton.mp hq]
      exact Nat.le_add_right _ _
theorem G_bast {a N : Nat} {xs : Int → Int} {i v : Int} {x : Int32} (hd : decode y.2.1 pc = .ok (.bastore, 1)) (he : h a = some (gI g 0 N xs)) (hi : 0 ≤ i ∧ i < N ∧ (N : Int) ≤ 2147483647) (hx : x.toInt8.toInt32 = iI v)
    (kk : G g y d mc ms (pc + 1) ls st (gup h a (gI g 0 N (iup xs i v))) n k u Q) : G g y d mc ms pc ls (.int x :: .int (iI i) :: gr g a :: st) h n k u Q := by
  intro p e s m args below meth c H locs la X hR hL hl
  have hin := in_vp hi
  refine W.bast X.1 X.2.1 (hR.P he 0 _ rfl) ((X.2.2.2.2.2.2.2.2.1.2 0 _ rfl).1 N (fun j => .int (gAi xs j))) (fun q => by cases q) (by show ¬ (iI i < 0 ∨ (arrV _ _ _).slots.size ≤ _); rw [arrV_size]; exact hin) rfl rfl hd fun H1 e z oq => ?_
  refine kk p _ s m args below meth c H1 _ la X (hR.up he ?_ z oq) (fun q hq => ?_) hl
  · show H1[gB g + a]? = some (vp_cell _ _)
    rw [e]
    rw [vp_cell_i, vp_cell_i, arrV_store, ← upd_gAi hi, ← hx]
    congr 2
    funext q
    by_cases hq : q = (iI i).toNatClampNeg
    · subst hq
      simp [updV, upd]
      try rfl
    · simp [updV, upd, hq]
  · rcases List.mem_append.mp hq with hq | hq
    · exact hL q hq
    · rw [List.mem_singleton.mp hq]
      exact Nat.le_add_right _ _
theorem G_zast {a N : Nat} {xs : Int → Int} {i v : Int} {x : Int32} (hd : decode y.2.1 pc = .ok (.bastore, 1)) (he : h a = some (gI g 3 N xs)) (hi : 0 ≤ i ∧ i < N ∧ (N : Int) ≤ 2147483647) (hx : vp_nar .boolean x = iI v)
    (kk : G g y d mc ms (pc + 1) ls st (gup h a (gI g 3 N (iup xs i v))) n k u Q) : G g y d mc ms pc ls (.int x :: .int (iI i) :: gr g a :: st) h n k u Q := by
  intro p e s m args below meth c H locs la X hR hL hl
  have hin := in_vp hi
  refine W.zast X.1 X.2.1 (hR.P he 0 _ rfl) ((X.2.2.2.2.2.2.2.2.1.2 3 _ rfl).1 N (fun j => .int (gAi xs j))) (fun q => by cases q) (by show ¬ (iI i < 0 ∨ (arrV _ _ _).slots.size ≤ _); rw [arrV_size]; exact hin) rfl rfl hd fun H1 e z oq => ?_
  refine kk p _ s m args below meth c H1 _ la X (hR.up he ?_ z oq) (fun q hq => ?_) hl
  · show H1[gB g + a]? = some (vp_cell _ _)
    rw [e]
    rw [vp_cell_i, vp_cell_i, arrV_store, ← upd_gAi hi, ← hx]
    congr 2
    funext q
    by_cases hq : q = (iI i).toNatClampNeg
    · subst hq
      simp [updV, upd, vp_nar]
      try rfl
    · simp [updV, upd, hq]
  · rcases List.mem_append.mp hq with hq | hq
    · exact hL q hq
    · rw [List.mem_singleton.mp hq]
      exact Nat.le_add_right _ _
theorem G_last {a N : Nat} {xs : Int → Int} {i v : Int} (hd : decode y.2.1 pc = .ok (.lastore, 1)) (he : h a = some (gJ g N xs)) (hi : 0 ≤ i ∧ i < N ∧ (N : Int) ≤ 2147483647)
    (kk : G g y d mc ms (pc + 1) ls st (gup h a (gJ g N (iup xs i v))) n k u Q) : G g y d mc ms pc ls (.long (iL v) :: .int (iI i) :: gr g a :: st) h n k u Q := by
  intro p e s m args below meth c H locs la X hR hL hl
  have hin := in_vp hi
  refine W.last X.1 X.2.1 (hR.P he 0 _ rfl) ((X.2.2.2.2.2.2.2.2.1.2 2 _ rfl).1 N (fun j => .long (gAl xs j))) (fun q => by cases q) (by show ¬ (iI i < 0 ∨ (arrV _ _ _).slots.size ≤ _); rw [arrV_size]; exact hin) rfl rfl hd fun H1 e z oq => ?_
  refine kk p _ s m args below meth c H1 _ la X (hR.up he ?_ z oq) (fun q hq => ?_) hl
  · show H1[gB g + a]? = some (vp_cell _ _)
    rw [e]
    rw [vp_cell_l, vp_cell_l, arrV_store]
    congr 2
    funext q
    rw [iI_clamp ⟨by omega, by omega⟩]
    unfold updV gAl iup
    by_cases hq : q = i.toNat
    · rw [if_pos hq, if_pos (by omega)]
    · rw [if_neg hq, if_neg (by omega)]
  · rcases List.mem_append.mp hq with hq | hq
    · exact hL q hq
    · rw [List.mem_singleton.mp hq]
      exact Nat.le_add_right _ _
theorem G_aast {a N t b ci : Nat} {xs : Int → Option Nat} {i : Int} {fs : List Value} {r : vw_C} (hd : decode y.2.1 pc = .ok (.aastore, 1)) (he : h a = some (gR g t N xs)) (ht : (gtys g)[t]? = some (gY g t, .object r.1)) (hb : h b = some (gO ci fs)) (hc : vwCl[ci]? = some r) (hi : 0 ≤ i ∧ i < N ∧ (N : Int) ≤ 2147483647)
    (kk : G g y d mc ms (pc + 1) ls st (gup h a (gR g t N (fun j => if j = i then some b else xs j))) n k u Q) : G g y d mc ms pc ls (gr g b :: .int (iI i) :: gr g a :: st) h n k u Q := by
  intro p e s m args below meth c H locs la X hR hL hl
  have hin := in_vp hi
  have hlt : (iI i).toNatClampNeg < N := Nat.not_le.mp fun q => hin (Or.inr q)
  have h0 : ¬ iI i < 0 := fun q => hin (Or.inl q)
  have hK := X.2.2.2.2.2.2.2.2.1
  obtain ⟨r', hr', cellV, g1, g2, g3, -⟩ := hR.P hb 0 _ rfl
  have hcls := (hK.1 ci r hc).2
  obtain ⟨kA, comp, k1, k2, k3, -⟩ := (hK.2 t _ ht).2
  have hcomp : comp = (gD g).1 ci := Option.some.inj (k3.symm.trans hcls.1)
  subst hcomp
  obtain ⟨kC, hkC, -⟩ := hcls.2
  refine W.aast X.1 X.2.1 (hR.P he 0 _ rfl) (fun q h => by cases h) (fun h => by cases h) k1 k2 rfl hkC ⟨h0, by show _ < (arrV _ _ _).slots.size; rw [arrV_size]; exact hlt⟩ g1 (fun q h => by rw [g3] at h; cases h) (by rw [g2]; exact hkC) (by rw [g2]; exact va_assign hcls) rfl rfl hd fun H1 e z oq => ?_
  refine kk p _ s m args below meth c H1 _ la X (hR.up he ?_ z oq) (fun q hq => ?_) hl
  · show H1[gB g + a]? = some (vp_cell _ _)
    rw [e]
    rw [vp_cell_q, vp_cell_q, arrV_store]
    congr 2
    funext q
    rw [iI_clamp ⟨by omega, by omega⟩]
    unfold updV gAr
    by_cases hq : q = i.toNat
    · rw [if_pos hq]
      show _ = va_rf (Option.map (fun k => gB g + k) (if (q : Int) = i then some b else xs (q : Int)))
      rw [if_pos (by omega)]
      rfl
    · rw [if_neg hq]
      show _ = va_rf (Option.map (fun k => gB g + k) (if (q : Int) = i then some b else xs (q : Int)))
      rw [if_neg (by omega)]
  · rcases List.mem_append.mp hq with hq | hq
    · exact hL q hq
    · rw [List.mem_singleton.mp hq]
      exact Nat.le_add_right _ _
end HROWS
