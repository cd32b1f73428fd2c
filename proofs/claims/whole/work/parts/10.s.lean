/-! THE STATE LAYER: the heap out of a shape and three functions (numbers in fields, numbers in arrays, references) -/
abbrev SS : Type := (Nat → Nat → Int) × (Nat → Int → Int) × (Nat → Int → Option Nat)
abbrev SH : Type := Nat → Option (Nat ⊕ (Nat × Nat))
def kds : Nat → List Nat := fun ci => match ci with
  | 0 => [2, 2, 2, 2, 2, 2, 2, 2, 2]
  | 1 => [2, 2, 0, 0, 0]
  | 2 => [2, 2, 2, 2, 0, 2, 2, 2, 2, 2]
  | 3 => [0]
  | 4 => [2, 0]
  | 5 => [0, 0, 2]
  | 6 => [2, 0, 2, 2, 0, 0]
  | 7 => [2, 0, 2, 0, 2, 0]
  | 8 => [0, 0, 2]
  | 9 => [2, 2, 2, 2, 2, 0, 1, 2, 2, 2, 0, 0, 2, 2, 2]
  | 10 => [0, 0, 2, 0, 2, 2, 1, 2, 2, 2, 2, 0, 0, 2, 0, 0, 0, 0, 0, 0, 0, 0, 0, 0, 0, 0, 0, 0, 0, 0, 2, 2, 2, 2, 0, 2, 2, 2, 2]
  | _ => []
def fval (g : GC) (S : SS) (a k kd : Nat) : Value := match kd with
  | 0 => .int (iI (S.1 a k))
  | 1 => .long (iL (S.1 a k))
  | _ => va_rf ((S.2.2 a (k : Int)).map (fun b => gB g + b))
def fvs (g : GC) (S : SS) (ci a : Nat) : List Value := (kds ci).mapIdx (fun k kd => fval g S a k kd)
def scell (g : GC) (S : SS) (a : Nat) (s : Nat ⊕ (Nat × Nat)) : va_E := match s with
  | .inl ci => gO ci (fvs g S ci a)
  | .inr (2, n) => gJ g n (S.2.1 a)
  | .inr (0, n) => gI g 0 n (S.2.1 a)
  | .inr (1, n) => gI g 1 n (S.2.1 a)
  | .inr (3, n) => gI g 3 n (S.2.1 a)
  | .inr (t, n) => gR g t n (S.2.2 a)
def hp (g : GC) (sh : SH) (S : SS) : GA := fun a => (sh a).map (scell g S a)
def setF (S : SS) (a k : Nat) (v : Int) : SS := (fun a' k' => if a' = a ∧ k' = k then v else S.1 a' k', S.2.1, S.2.2)
def putA (S : SS) (a : Nat) (xs : Int → Int) : SS := (S.1, fun a' => if a' = a then xs else S.2.1 a', S.2.2)
def setA (S : SS) (a : Nat) (i v : Int) : SS := putA S a (iup (S.2.1 a) i v)
def setP (S : SS) (a : Nat) (k : Int) (b : Option Nat) : SS := (S.1, S.2.1, fun a' k' => if a' = a ∧ k' = k then b else S.2.2 a' k')
def sup (sh : SH) (a : Nat) (s : Nat ⊕ (Nat × Nat)) : SH := fun k => if k = a then some s else sh k
theorem fvs_at {g : GC} {S : SS} {ci a f kd : Nat} (hk : (kds ci)[f]? = some kd) : (fvs g S ci a)[f]? = some (fval g S a f kd) := by
  unfold fvs
  rw [List.getElem?_mapIdx, hk]
  rfl
theorem fvs_len {g : GC} {S : SS} {ci a f kd : Nat} (hk : (kds ci)[f]? = some kd) : f < (fvs g S ci a).length := by
  unfold fvs
  rw [List.length_mapIdx]
  exact (List.getElem?_eq_some_iff.mp hk).1
theorem fvs_set {g : GC} {S S' : SS} {ci a f kd : Nat} {v : Value} (hk : (kds ci)[f]? = some kd) (hv : fval g S' a f kd = v) (ho : ∀ (k kd : Nat), k ≠ f → fval g S' a k kd = fval g S a k kd) : (fvs g S ci a).set f v = fvs g S' ci a := by
  apply List.ext_getElem?
  intro k
  have hl := fvs_len (g := g) (S := S) (a := a) hk
  by_cases hkf : k = f
  · subst hkf
    rw [List.getElem?_set_self hl, fvs_at hk, hv]
  · rw [List.getElem?_set_ne (Ne.symm hkf)]
    unfold fvs
    rw [List.getElem?_mapIdx, List.getElem?_mapIdx]
    cases (kds ci)[k]? with
    | none => rfl
    | some z => exact congrArg some (ho k z hkf).symm
theorem hp_set {g : GC} {sh : SH} {S S' : SS} {a : Nat} {s : Nat ⊕ (Nat × Nat)} {e : va_E} (hs : sh a = some s) (he : scell g S' a s = e) (ho : ∀ (b : Nat) (s' : Nat ⊕ (Nat × Nat)), b ≠ a → scell g S' b s' = scell g S b s') : gup (hp g sh S) a e = hp g sh S' := by
  funext b
  unfold gup hp
  by_cases hb : b = a
  · subst hb
    rw [if_pos rfl, hs, ← he]
    rfl
  · rw [if_neg hb]
    cases sh b with
    | none => rfl
    | some z => show some _ = some _; rw [ho b z hb]
theorem hp_new {g : GC} {sh : SH} {S : SS} {a : Nat} {s : Nat ⊕ (Nat × Nat)} {e : va_E} (he : scell g S a s = e) : gup (hp g sh S) a e = hp g (sup sh a s) S := by
  funext b
  unfold gup hp sup
  by_cases hb : b = a
  · subst hb
    rw [if_pos rfl, if_pos rfl, ← he]
    rfl
  · rw [if_neg hb, if_neg hb]
theorem fval_F {g : GC} {S : SS} {a a' k k' kd : Nat} {v : Int} (h : a' ≠ a ∨ k' ≠ k) : fval g (setF S a k v) a' k' kd = fval g S a' k' kd := by
  have e : (setF S a k v).1 a' k' = S.1 a' k' := by
    show (if a' = a ∧ k' = k then v else S.1 a' k') = _
    rw [if_neg (fun z => h.elim (fun q => q z.1) (fun q => q z.2))]
  match kd with
  | 0 => show Value.int _ = Value.int _; rw [e]
  | 1 => show Value.long _ = Value.long _; rw [e]
  | (n + 2) => rfl
theorem fval_P {g : GC} {S : SS} {a a' k' kd : Nat} {k : Int} {b : Option Nat} (h : a' ≠ a ∨ (k' : Int) ≠ k) : fval g (setP S a k b) a' k' kd = fval g S a' k' kd := by
  have e : (setP S a k b).2.2 a' k' = S.2.2 a' k' := by
    show (if a' = a ∧ (k' : Int) = k then b else S.2.2 a' k') = _
    rw [if_neg (fun z => h.elim (fun q => q z.1) (fun q => q z.2))]
  match kd with
  | 0 => rfl
  | 1 => rfl
  | (n + 2) => show va_rf _ = va_rf _; rw [e]
theorem scell_eq {g : GC} {S S' : SS} {a : Nat} {s : Nat ⊕ (Nat × Nat)} (h1 : ∀ k kd : Nat, fval g S' a k kd = fval g S a k kd) (h2 : S'.2.1 a = S.2.1 a) (h3 : S'.2.2 a = S.2.2 a) : scell g S' a s = scell g S a s := by
  match s with
  | .inl ci => show gO ci (fvs g S' ci a) = gO ci (fvs g S ci a); unfold fvs; simp only [h1]
  | .inr (0, n) => show gI g 0 n _ = gI g 0 n _; rw [h2]
  | .inr (1, n) => show gI g 1 n _ = gI g 1 n _; rw [h2]
  | .inr (2, n) => show gJ g n _ = gJ g n _; rw [h2]
  | .inr (3, n) => show gI g 3 n _ = gI g 3 n _; rw [h2]
  | .inr (t + 4, n) => show gR g (t + 4) n _ = gR g (t + 4) n _; rw [h3]
theorem hp_F {g : GC} {sh : SH} {S : SS} {a ci f : Nat} {v : Int} (hs : sh a = some (.inl ci)) (hk : (kds ci)[f]? = some 0) : gup (hp g sh S) a (gO ci ((fvs g S ci a).set f (.int (iI v)))) = hp g sh (setF S a f v) := by
  refine hp_set hs (congrArg (gO ci) (fvs_set hk ?_ (fun k kd hkf => fval_F (Or.inr hkf))).symm) (fun b s hb => scell_eq (fun k kd => fval_F (Or.inl hb)) rfl rfl)
  show Value.int (iI (if a = a ∧ f = f then v else _)) = _
  rw [if_pos ⟨rfl, rfl⟩]
theorem hp_L {g : GC} {sh : SH} {S : SS} {a ci f : Nat} {v : Int} (hs : sh a = some (.inl ci)) (hk : (kds ci)[f]? = some 1) : gup (hp g sh S) a (gO ci ((fvs g S ci a).set f (.long (iL v)))) = hp g sh (setF S a f v) := by
  refine hp_set hs (congrArg (gO ci) (fvs_set hk ?_ (fun k kd hkf => fval_F (Or.inr hkf))).symm) (fun b s hb => scell_eq (fun k kd => fval_F (Or.inl hb)) rfl rfl)
  show Value.long (iL (if a = a ∧ f = f then v else _)) = _
  rw [if_pos ⟨rfl, rfl⟩]
theorem hp_P {g : GC} {sh : SH} {S : SS} {a ci f b : Nat} (hs : sh a = some (.inl ci)) (hk : (kds ci)[f]? = some 2) : gup (hp g sh S) a (gO ci ((fvs g S ci a).set f (gr g b))) = hp g sh (setP S a f (some b)) := by
  refine hp_set hs (congrArg (gO ci) (fvs_set hk ?_ (fun k kd hkf => fval_P (Or.inr (by omega)))).symm) (fun b s hb => scell_eq (fun k kd => fval_P (Or.inl hb)) rfl ?_)
  · show va_rf (Option.map _ (if a = a ∧ (f : Int) = f then some b else _)) = _
    rw [if_pos ⟨rfl, rfl⟩]
    rfl
  · funext k
    show (if _ = a ∧ k = (f : Int) then _ else _) = _
    rw [if_neg (fun z => hb z.1)]
theorem putA_eq {g : GC} {S : SS} {a b : Nat} {s : Nat ⊕ (Nat × Nat)} {xs : Int → Int} (hb : b ≠ a) : scell g (putA S a xs) b s = scell g S b s :=
  scell_eq (fun k kd => by match kd with | 0 => rfl | 1 => rfl | (n + 2) => rfl) (by show (if b = a then xs else S.2.1 b) = _; rw [if_neg hb]) rfl
theorem putA_at {S : SS} {a : Nat} {xs : Int → Int} : (putA S a xs).2.1 a = xs := by show (if a = a then xs else _) = _; rw [if_pos rfl]
theorem hp_A {g : GC} {sh : SH} {S : SS} {a t N : Nat} {i v : Int} (hs : sh a = some (.inr (t, N))) (ht : t = 0 ∨ t = 1 ∨ t = 3) : gup (hp g sh S) a (gI g t N (iup (S.2.1 a) i v)) = hp g sh (setA S a i v) := by
  refine hp_set hs ?_ (fun b s hb => putA_eq hb)
  rcases ht with rfl | rfl | rfl
  · show gI g 0 N ((putA S a _).2.1 a) = _; rw [putA_at]
  · show gI g 1 N ((putA S a _).2.1 a) = _; rw [putA_at]
  · show gI g 3 N ((putA S a _).2.1 a) = _; rw [putA_at]
theorem hp_J {g : GC} {sh : SH} {S : SS} {a N : Nat} {i v : Int} (hs : sh a = some (.inr (2, N))) : gup (hp g sh S) a (gJ g N (iup (S.2.1 a) i v)) = hp g sh (setA S a i v) := by
  refine hp_set hs ?_ (fun b s hb => putA_eq hb)
  show gJ g N ((putA S a _).2.1 a) = _; rw [putA_at]
theorem hp_R {g : GC} {sh : SH} {S : SS} {a t N b : Nat} {i : Int} (hs : sh a = some (.inr (t + 4, N))) : gup (hp g sh S) a (gR g (t + 4) N (fun j => if j = i then some b else S.2.2 a j)) = hp g sh (setP S a i (some b)) := by
  refine hp_set hs ?_ (fun b s hb => scell_eq (fun k kd => fval_P (Or.inl hb)) rfl ?_)
  · show gR g (t + 4) N ((setP S a i (some b)).2.2 a) = _
    congr 1
    funext j
    show (if a = a ∧ j = i then _ else _) = _
    by_cases hj : j = i
    · rw [if_pos ⟨rfl, hj⟩, if_pos hj]
    · rw [if_neg (fun z => hj z.2), if_neg hj]
  · funext k
    show (if _ = a ∧ k = i then _ else _) = _
    rw [if_neg (fun z => hb z.1)]
theorem hp_at {g : GC} {sh : SH} {S : SS} {a : Nat} {s : Nat ⊕ (Nat × Nat)} (hs : sh a = some s) : hp g sh S a = some (scell g S a s) := by
  unfold hp; rw [hs]; rfl
section SROWS
variable {g : GC} {y : GM} {d mc ms pc : Nat} {ls : List (Nat × Value)} {st : List Value} {sh : SH} {S : SS} {n k u : Nat} {Q : Option Value → GA → Nat → Prop}
theorem S_getI {a ix ci f : Nat} {fin : Bool} {ft : FieldType} (hd : decode y.2.1 pc = .ok (.getfield ix, 3)) (hF : GFld y.1.cls ix ci f fin ft) (hs : sh a = some (.inl ci)) (hk : (kds ci)[f]? = some 0)
    (kk : G g y d mc ms (pc + 3) ls (.int (iI (S.1 a f)) :: st) (hp g sh S) n k u Q) : G g y d mc ms pc ls (gr g a :: st) (hp g sh S) n k u Q :=
  G_getf hd hF (hp_at hs) (fvs_at hk) kk
theorem S_getL {a ix ci f : Nat} {fin : Bool} {ft : FieldType} (hd : decode y.2.1 pc = .ok (.getfield ix, 3)) (hF : GFld y.1.cls ix ci f fin ft) (hs : sh a = some (.inl ci)) (hk : (kds ci)[f]? = some 1)
    (kk : G g y d mc ms (pc + 3) ls (.long (iL (S.1 a f)) :: st) (hp g sh S) n k u Q) : G g y d mc ms pc ls (gr g a :: st) (hp g sh S) n k u Q :=
  G_getf hd hF (hp_at hs) (fvs_at hk) kk
theorem S_getR {a ix ci f b : Nat} {fin : Bool} {ft : FieldType} (hd : decode y.2.1 pc = .ok (.getfield ix, 3)) (hF : GFld y.1.cls ix ci f fin ft) (hs : sh a = some (.inl ci)) (hk : (kds ci)[f]? = some 2) (hp' : S.2.2 a (f : Int) = some b)
    (kk : G g y d mc ms (pc + 3) ls (gr g b :: st) (hp g sh S) n k u Q) : G g y d mc ms pc ls (gr g a :: st) (hp g sh S) n k u Q :=
  G_getf hd hF (hp_at hs) (fvs_at hk) (by show G g y d mc ms (pc + 3) ls (va_rf ((S.2.2 a (f : Int)).map _) :: st) _ n k u Q; rw [hp']; exact kk)
theorem S_putI {a ix ci f : Nat} {ft : FieldType} {v : Int} (hd : decode y.2.1 pc = .ok (.putfield ix, 3)) (hF : GFld y.1.cls ix ci f false ft) (hs : sh a = some (.inl ci)) (hk : (kds ci)[f]? = some 0) (hn : narrow ft (.int (iI v)) = .int (iI v) ∧ fits ft (.int (iI v)) = true)
    (kk : G g y d mc ms (pc + 3) ls st (hp g sh (setF S a f v)) n k u Q) : G g y d mc ms pc ls (.int (iI v) :: gr g a :: st) (hp g sh S) n k u Q :=
  G_putf hd hF (hp_at hs) (fvs_len hk) hn (by rw [hp_F hs hk]; exact kk)
theorem S_putIF {a ix ci f : Nat} {ft : FieldType} {v : Int} (hd : decode y.2.1 pc = .ok (.putfield ix, 3)) (hF : GFld y.1.cls ix ci f true ft) (hin : y.1.name = "<init>") (hs : sh a = some (.inl ci)) (hk : (kds ci)[f]? = some 0) (hn : narrow ft (.int (iI v)) = .int (iI v) ∧ fits ft (.int (iI v)) = true)
    (kk : G g y d mc ms (pc + 3) ls st (hp g sh (setF S a f v)) n k u Q) : G g y d mc ms pc ls (.int (iI v) :: gr g a :: st) (hp g sh S) n k u Q :=
  G_putfF hd hF hin (hp_at hs) (fvs_len hk) hn (by rw [hp_F hs hk]; exact kk)
theorem S_putL {a ix ci f : Nat} {ft : FieldType} {v : Int} (hd : decode y.2.1 pc = .ok (.putfield ix, 3)) (hF : GFld y.1.cls ix ci f false ft) (hs : sh a = some (.inl ci)) (hk : (kds ci)[f]? = some 1) (hn : narrow ft (.long (iL v)) = .long (iL v) ∧ fits ft (.long (iL v)) = true)
    (kk : G g y d mc ms (pc + 3) ls st (hp g sh (setF S a f v)) n k u Q) : G g y d mc ms pc ls (.long (iL v) :: gr g a :: st) (hp g sh S) n k u Q :=
  G_putf hd hF (hp_at hs) (fvs_len hk) hn (by rw [hp_L hs hk]; exact kk)
theorem S_putR {a ix ci f b : Nat} {ft : FieldType} (hd : decode y.2.1 pc = .ok (.putfield ix, 3)) (hF : GFld y.1.cls ix ci f false ft) (hs : sh a = some (.inl ci)) (hk : (kds ci)[f]? = some 2) (hn : narrow ft (gr g b) = gr g b ∧ fits ft (gr g b) = true)
    (kk : G g y d mc ms (pc + 3) ls st (hp g sh (setP S a f (some b))) n k u Q) : G g y d mc ms pc ls (gr g b :: gr g a :: st) (hp g sh S) n k u Q :=
  G_putf hd hF (hp_at hs) (fvs_len hk) hn (by rw [hp_P hs hk]; exact kk)
theorem S_putRF {a ix ci f b : Nat} {ft : FieldType} (hd : decode y.2.1 pc = .ok (.putfield ix, 3)) (hF : GFld y.1.cls ix ci f true ft) (hin : y.1.name = "<init>") (hs : sh a = some (.inl ci)) (hk : (kds ci)[f]? = some 2) (hn : narrow ft (gr g b) = gr g b ∧ fits ft (gr g b) = true)
    (kk : G g y d mc ms (pc + 3) ls st (hp g sh (setP S a f (some b))) n k u Q) : G g y d mc ms pc ls (gr g b :: gr g a :: st) (hp g sh S) n k u Q :=
  G_putfF hd hF hin (hp_at hs) (fvs_len hk) hn (by rw [hp_P hs hk]; exact kk)
theorem S_iald {a N : Nat} {i : Int} (hd : decode y.2.1 pc = .ok (.iaload, 1)) (hs : sh a = some (.inr (1, N))) (hi : 0 ≤ i ∧ i < N ∧ (N : Int) ≤ 2147483647)
    (kk : G g y d mc ms (pc + 1) ls (.int (iI (S.2.1 a i)) :: st) (hp g sh S) n k u Q) : G g y d mc ms pc ls (.int (iI i) :: gr g a :: st) (hp g sh S) n k u Q := G_iald hd (hp_at hs) hi kk
theorem S_bald {a N : Nat} {i : Int} (hd : decode y.2.1 pc = .ok (.baload, 1)) (hs : sh a = some (.inr (0, N))) (hi : 0 ≤ i ∧ i < N ∧ (N : Int) ≤ 2147483647)
    (kk : G g y d mc ms (pc + 1) ls (.int (iI (S.2.1 a i)) :: st) (hp g sh S) n k u Q) : G g y d mc ms pc ls (.int (iI i) :: gr g a :: st) (hp g sh S) n k u Q := G_bald hd (hp_at hs) hi kk
theorem S_zald {a N : Nat} {i : Int} (hd : decode y.2.1 pc = .ok (.baload, 1)) (hs : sh a = some (.inr (3, N))) (hi : 0 ≤ i ∧ i < N ∧ (N : Int) ≤ 2147483647)
    (kk : G g y d mc ms (pc + 1) ls (.int (iI (S.2.1 a i)) :: st) (hp g sh S) n k u Q) : G g y d mc ms pc ls (.int (iI i) :: gr g a :: st) (hp g sh S) n k u Q := G_zald hd (hp_at hs) hi kk
theorem S_lald {a N : Nat} {i : Int} (hd : decode y.2.1 pc = .ok (.laload, 1)) (hs : sh a = some (.inr (2, N))) (hi : 0 ≤ i ∧ i < N ∧ (N : Int) ≤ 2147483647)
    (kk : G g y d mc ms (pc + 1) ls (.long (iL (S.2.1 a i)) :: st) (hp g sh S) n k u Q) : G g y d mc ms pc ls (.int (iI i) :: gr g a :: st) (hp g sh S) n k u Q := G_lald hd (hp_at hs) hi kk
theorem S_aald {a N t b : Nat} {C : String} {i : Int} (hd : decode y.2.1 pc = .ok (.aaload, 1)) (hs : sh a = some (.inr (t + 4, N))) (ht : (gtys g)[t + 4]? = some (gY g (t + 4), .object C)) (hi : 0 ≤ i ∧ i < N ∧ (N : Int) ≤ 2147483647) (hv : S.2.2 a i = some b)
    (kk : G g y d mc ms (pc + 1) ls (gr g b :: st) (hp g sh S) n k u Q) : G g y d mc ms pc ls (.int (iI i) :: gr g a :: st) (hp g sh S) n k u Q := G_aald hd (hp_at hs) ht hi (by rw [hv]; rfl) kk
theorem S_iast {a N : Nat} {i v : Int} (hd : decode y.2.1 pc = .ok (.iastore, 1)) (hs : sh a = some (.inr (1, N))) (hi : 0 ≤ i ∧ i < N ∧ (N : Int) ≤ 2147483647)
    (kk : G g y d mc ms (pc + 1) ls st (hp g sh (setA S a i v)) n k u Q) : G g y d mc ms pc ls (.int (iI v) :: .int (iI i) :: gr g a :: st) (hp g sh S) n k u Q := G_iast hd (hp_at hs) hi (by rw [hp_A hs (by omega)]; exact kk)
theorem S_bast {a N : Nat} {i v : Int} {x : Int32} (hd : decode y.2.1 pc = .ok (.bastore, 1)) (hs : sh a = some (.inr (0, N))) (hi : 0 ≤ i ∧ i < N ∧ (N : Int) ≤ 2147483647) (hx : x.toInt8.toInt32 = iI v)
    (kk : G g y d mc ms (pc + 1) ls st (hp g sh (setA S a i v)) n k u Q) : G g y d mc ms pc ls (.int x :: .int (iI i) :: gr g a :: st) (hp g sh S) n k u Q := G_bast hd (hp_at hs) hi hx (by rw [hp_A hs (by omega)]; exact kk)
theorem S_zast {a N : Nat} {i v : Int} {x : Int32} (hd : decode y.2.1 pc = .ok (.bastore, 1)) (hs : sh a = some (.inr (3, N))) (hi : 0 ≤ i ∧ i < N ∧ (N : Int) ≤ 2147483647) (hx : vp_nar .boolean x = iI v)
    (kk : G g y d mc ms (pc + 1) ls st (hp g sh (setA S a i v)) n k u Q) : G g y d mc ms pc ls (.int x :: .int (iI i) :: gr g a :: st) (hp g sh S) n k u Q := G_zast hd (hp_at hs) hi hx (by rw [hp_A hs (by omega)]; exact kk)
theorem S_last {a N : Nat} {i v : Int} (hd : decode y.2.1 pc = .ok (.lastore, 1)) (hs : sh a = some (.inr (2, N))) (hi : 0 ≤ i ∧ i < N ∧ (N : Int) ≤ 2147483647)
    (kk : G g y d mc ms (pc + 1) ls st (hp g sh (setA S a i v)) n k u Q) : G g y d mc ms pc ls (.long (iL v) :: .int (iI i) :: gr g a :: st) (hp g sh S) n k u Q := G_last hd (hp_at hs) hi (by rw [hp_J hs]; exact kk)
theorem S_aast {a N t b ci : Nat} {i : Int} {r : vw_C} (hd : decode y.2.1 pc = .ok (.aastore, 1)) (hs : sh a = some (.inr (t + 4, N))) (ht : (gtys g)[t + 4]? = some (gY g (t + 4), .object r.1)) (hb : sh b = some (.inl ci)) (hc : vwCl[ci]? = some r) (hi : 0 ≤ i ∧ i < N ∧ (N : Int) ≤ 2147483647)
    (kk : G g y d mc ms (pc + 1) ls st (hp g sh (setP S a i (some b))) n k u Q) : G g y d mc ms pc ls (gr g b :: .int (iI i) :: gr g a :: st) (hp g sh S) n k u Q := G_aast hd (hp_at hs) ht (hp_at hb) hc hi (by rw [hp_R hs]; exact kk)
theorem S_alen {a N : Nat} (hd : decode y.2.1 pc = .ok (.arraylength, 1)) (hs : sh a = some (.inr (1, N)) ∨ sh a = some (.inr (0, N)))
    (kk : G g y d mc ms (pc + 1) ls (.int (iI N) :: st) (hp g sh S) n k u Q) : G g y d mc ms pc ls (gr g a :: st) (hp g sh S) n k u Q :=
  hs.elim (fun hs => G_alen (t := 1) hd (hp_at hs) rfl rfl kk) (fun hs => G_alen (t := 0) hd (hp_at hs) rfl rfl kk)
theorem S_callV {y2 : GM} {ix np d2 mc2 ms2 b ci : Nat} {As rest : List Value} {T : u_T} {N : Nat} (hd : decode y.2.1 pc = .ok (.invokevirtual ix, 3)) (hC : GCode y2 np) (hV : GVirt y.1.cls ix y2) (hs : sh b = some (.inl ci)) (hc : vwCl[ci]? = some (y2.1.cls, T, N)) (hnp : As.length = np) (hst : st = As.reverse ++ gr g b :: rest)
    (hrest : (rest.map fun v => v.category).sum ≤ 8) (hdp : d2 + 1 ≤ d ∧ y2.2.2.1 ≤ 41) (hcs : k + mc2 ≤ mc ∧ u + ms2 ≤ ms)
    (kk : GCall g y2 d2 mc2 ms2 (gr g b :: As) (hp g sh S) n (fun v h' n' => G g y d mc ms (pc + 3) ls (v.toList ++ rest) h' n' (k + mc2) (u + ms2) Q)) : G g y d mc ms pc ls st (hp g sh S) n k u Q :=
  G_callV hd hC hV (hp_at hs) hc hnp hst hrest hdp hcs kk
end SROWS
