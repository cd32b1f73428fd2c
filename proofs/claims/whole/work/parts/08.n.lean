/-! rows of G: new arrays; facts of the tables -/
section NROWS
variable {g : GC} {y : GM} {d mc ms pc : Nat} {ls : List (Nat × Value)} {st : List Value} {h : GA} {n k u : Nat} {Q : Option Value → GA → Nat → Prop}
theorem G_newB {a : Int} {N : Nat} (hd : decode y.2.1 pc = .ok (.newarray .byte, 2)) (harr : Cond.arrayClass .byte ∈ W0) (ha : a = N) (hN : N ≤ 100000) (hcs : k + 1 ≤ mc ∧ u + N ≤ ms)
    (kk : G g y d mc ms (pc + 2) ls (gr g n :: st) (gup h n (gI g 0 N (fun _ => 0))) (n + 1) (k + 1) (u + N) Q) : G g y d mc ms pc ls (.int (iI a) :: st) h n k u Q := by
  intro p e s m args below meth c H locs la X hR hL hl
  subst ha
  have hz := hR.1
  refine va_newaK (N := N) X.1 X.2.1 (atype := .byte) (X.2.2.2.2.2.1 _ harr) rfl hd rfl (by rw [iI_lt0 ⟨by omega, by omega⟩]; omega) (by rw [iI_clamp ⟨by omega, by omega⟩]; rfl) (by show N * 1 ≤ 536870912; omega) hcs.1 hcs.2 rfl fun H1 cA e1 z1 o1 hAr hNm => ?_
  have hcA : cA = gY g 0 := Option.some.inj (hNm.symm.trans (X.2.2.2.2.2.2.2.2.1.2 0 _ rfl).2)
  subst hcA
  have hat : va_at (gD g) vwCl (gB g + n, gI g 0 N (fun _ => 0)) H1 := by
    rw [← hz]
    show H1[H.size]? = some (vp_cell _ _)
    rw [vp_cell_i]
    exact e1
  rw [hz]
  exact kk p _ s m args below meth c H1 locs la X (hR.push hat z1 o1) hL hl
theorem G_newI {a : Int} {N : Nat} (hd : decode y.2.1 pc = .ok (.newarray .int, 2)) (harr : Cond.arrayClass .int ∈ W0) (ha : a = N) (hN : N ≤ 100000) (hcs : k + 1 ≤ mc ∧ u + N ≤ ms)
    (kk : G g y d mc ms (pc + 2) ls (gr g n :: st) (gup h n (gI g 1 N (fun _ => 0))) (n + 1) (k + 1) (u + N) Q) : G g y d mc ms pc ls (.int (iI a) :: st) h n k u Q := by
  intro p e s m args below meth c H locs la X hR hL hl
  subst ha
  have hz := hR.1
  refine va_newaK (N := N) X.1 X.2.1 (atype := .int) (X.2.2.2.2.2.1 _ harr) rfl hd rfl (by rw [iI_lt0 ⟨by omega, by omega⟩]; omega) (by rw [iI_clamp ⟨by omega, by omega⟩]; rfl) (by show N * 4 ≤ 536870912; omega) hcs.1 hcs.2 rfl fun H1 cA e1 z1 o1 hAr hNm => ?_
  have hcA : cA = gY g 1 := Option.some.inj (hNm.symm.trans (X.2.2.2.2.2.2.2.2.1.2 1 _ rfl).2)
  subst hcA
  have hat : va_at (gD g) vwCl (gB g + n, gI g 1 N (fun _ => 0)) H1 := by
    rw [← hz]
    show H1[H.size]? = some (vp_cell _ _)
    rw [vp_cell_i]
    exact e1
  rw [hz]
  exact kk p _ s m args below meth c H1 locs la X (hR.push hat z1 o1) hL hl
theorem G_newJ {a : Int} {N : Nat} (hd : decode y.2.1 pc = .ok (.newarray .long, 2)) (harr : Cond.arrayClass .long ∈ W0) (ha : a = N) (hN : N ≤ 100000) (hcs : k + 1 ≤ mc ∧ u + N ≤ ms)
    (kk : G g y d mc ms (pc + 2) ls (gr g n :: st) (gup h n (gJ g N (fun _ => 0))) (n + 1) (k + 1) (u + N) Q) : G g y d mc ms pc ls (.int (iI a) :: st) h n k u Q := by
  intro p e s m args below meth c H locs la X hR hL hl
  subst ha
  have hz := hR.1
  refine va_newaK (N := N) X.1 X.2.1 (atype := .long) (X.2.2.2.2.2.1 _ harr) rfl hd rfl (by rw [iI_lt0 ⟨by omega, by omega⟩]; omega) (by rw [iI_clamp ⟨by omega, by omega⟩]; rfl) (by show N * 8 ≤ 536870912; omega) hcs.1 hcs.2 rfl fun H1 cA e1 z1 o1 hAr hNm => ?_
  have hcA : cA = gY g 2 := Option.some.inj (hNm.symm.trans (X.2.2.2.2.2.2.2.2.1.2 2 _ rfl).2)
  subst hcA
  have hat : va_at (gD g) vwCl (gB g + n, gJ g N (fun _ => 0)) H1 := by
    rw [← hz]
    show H1[H.size]? = some (vp_cell _ _)
    rw [vp_cell_l]
    exact e1
  rw [hz]
  exact kk p _ s m args below meth c H1 locs la X (hR.push hat z1 o1) hL hl
theorem G_newZ {a : Int} {N : Nat} (hd : decode y.2.1 pc = .ok (.newarray .boolean, 2)) (harr : Cond.arrayClass .boolean ∈ W0) (ha : a = N) (hN : N ≤ 100000) (hcs : k + 1 ≤ mc ∧ u + N ≤ ms)
    (kk : G g y d mc ms (pc + 2) ls (gr g n :: st) (gup h n (gI g 3 N (fun _ => 0))) (n + 1) (k + 1) (u + N) Q) : G g y d mc ms pc ls (.int (iI a) :: st) h n k u Q := by
  intro p e s m args below meth c H locs la X hR hL hl
  subst ha
  have hz := hR.1
  refine va_newaK (N := N) X.1 X.2.1 (atype := .boolean) (X.2.2.2.2.2.1 _ harr) rfl hd rfl (by rw [iI_lt0 ⟨by omega, by omega⟩]; omega) (by rw [iI_clamp ⟨by omega, by omega⟩]; rfl) (by show N * 1 ≤ 536870912; omega) hcs.1 hcs.2 rfl fun H1 cA e1 z1 o1 hAr hNm => ?_
  have hcA : cA = gY g 3 := Option.some.inj (hNm.symm.trans (X.2.2.2.2.2.2.2.2.1.2 3 _ rfl).2)
  subst hcA
  have hat : va_at (gD g) vwCl (gB g + n, gI g 3 N (fun _ => 0)) H1 := by
    rw [← hz]
    show H1[H.size]? = some (vp_cell _ _)
    rw [vp_cell_i]
    exact e1
  rw [hz]
  exact kk p _ s m args below meth c H1 locs la X (hR.push hat z1 o1) hL hl
theorem G_newR {a : Int} {ix N t : Nat} {C : String} (hd : decode y.2.1 pc = .ok (.anewarray ix, 3)) (hcl : Cond.classLink y.1.cls ix C ∈ W0) (ho : C ∈ gOver) (ht : (gtys g)[t]? = some (gY g t, .object C)) (ha : a = N) (hN : N ≤ 100000) (hcs : k + 1 ≤ mc ∧ u + N ≤ ms)
    (kk : G g y d mc ms (pc + 3) ls (gr g n :: st) (gup h n (gR g t N (fun _ => none))) (n + 1) (k + 1) (u + N) Q) : G g y d mc ms pc ls (.int (iI a) :: st) h n k u Q := by
  intro p e s m args below meth c H locs la X hR hL hl
  subst ha
  have hz := hR.1
  have eN : (iI (N : Int)).toNatClampNeg = N := by rw [iI_clamp ⟨by omega, by omega⟩]; rfl
  refine W.anew X.1 X.2.1 X.2.2.2.2.2.2.1 (X.2.2.2.2.2.1 _ hcl) (va_AO.use (X.2.2.2.2.2.2.2.2.2.2.1 C ho)) rfl hd rfl (by rw [iI_lt0 ⟨by omega, by omega⟩]; omega) (by rw [eN]; omega) hcs.1 (by rw [eN]; exact hcs.2) fun cA kA comp f1 f2 f3 f4 => ?_
  rw [eN]
  obtain ⟨kA', comp', g1, g2, g3, g4⟩ := (X.2.2.2.2.2.2.2.2.1.2 t _ ht).2
  have hcA : cA = gY g t := Option.some.inj (f1.symm.trans g4)
  subst hcA
  generalize hH1 : H.push ({ cls := gY g t, slots := Array.replicate N .null, vm := .none } : Cell) = H1
  have z1 : H1.size = H.size + 1 := by rw [← hH1, Array.size_push]
  have e1 : H1[H.size]? = some (arrV (gY g t) N (fun _ => .null)) := by rw [← hH1, Array.getElem?_push_size, ← arrV_new]
  have o1 : ∀ q : Nat, q < H.size → H1[q]? = H[q]? := fun q hq => by rw [← hH1, Array.getElem?_push, if_neg (Nat.ne_of_lt hq)]
  have hat : va_at (gD g) vwCl (gB g + n, gR g t N (fun _ => none)) H1 := by
    rw [← hz]
    show H1[H.size]? = some (vp_cell _ _)
    rw [vp_cell_q]
    exact e1
  rw [hz]
  exact kk p e s m args below meth c H1 locs la X (hR.push hat z1 o1) hL hl
end NROWS
