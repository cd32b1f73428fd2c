/-! the start: what the Statement gives is what g's frame asks -/
theorem ar_known {t : FieldType} {s : State} {A : Array Value} (ht : ∀ C : String, t ≠ .object C) (h : (Cond.arrayClass t).before A s = true) : ∃ cA : ClassId, ArrOfT s cA t ∧ va_RA s cA t := by
  obtain ⟨cA, k, comp, h1, h2, h3⟩ := Cond.arrayClass_spec h
  refine ⟨cA, fun N z => ⟨(fun k h => by cases h), k, h2, comp, h3⟩, ?_⟩
  cases t with
  | object C => exact absurd rfl (ht C)
  | _ => exact h1
theorem ao_known {C : String} {s : State} {A : Array Value} (h : (Cond.arrayOver (.object C)).before A s = true) : ∃ cA : ClassId, ArrOfT s cA (.object C) ∧ va_RA s cA (.object C) := by
  obtain ⟨comp, cA, k, h1, -, h2, h3, h4⟩ := Cond.arrayOver_spec h
  exact ⟨cA, fun N z => ⟨(fun k h => by cases h), k, h2, comp, h3⟩, k, comp, h2, h3, h1, h4⟩
theorem cl_known {s : State} {A : Array Value} (hts : ∀ w ∈ W0, w.before A s = true) : ∃ D : va_G, ∀ (k : Nat) (q : vw_C), vwCl[k]? = some q → u_Kn s q.1 q.2.1 q.2.2 (D.1 k) (D.2 k) := by
  have one : ∀ {ci N : Nat} {C : String} {T : u_T} {ty : Nat → FieldType}, GCls ci C T N ty → Cond.instantiable C N ∈ W0 → ∃ x : ClassId × (Nat → Nat), ∀ q : vw_C, vwCl[ci]? = some q → u_Kn s q.1 q.2.1 q.2.2 x.1 x.2 := fun hG hi => by
    obtain ⟨cC, iS, hK⟩ := u_known hts hG.2.1 (hts _ hi)
    exact ⟨(cC, iS), fun q hq => by
      cases hG.1.symm.trans hq
      exact hK⟩
  have h0 : ∀ k : Nat, ∃ x : ClassId × (Nat → Nat), ∀ q : vw_C, vwCl[k]? = some q → u_Kn s q.1 q.2.1 q.2.2 x.1 x.2 := fun k => by
    match k with
    | 0 => exact one gcX0 inX0
    | 1 => exact one gcX1 inX1
    | 2 => exact one gcX2 inX2
    | 3 => exact one gcX3 inX3
    | 4 => exact one gcX4 inX4
    | 5 => exact one gcX5 inX5
    | 6 => exact one gcX6 inX6
    | 7 => exact one gcX7 inX7
    | 8 => exact one gcX8 inX8
    | 9 => exact one gcX9 inX9
    | 10 => exact one gcX10 inX10
    | k + 11 => exact ⟨(0, fun _ => 0), fun q hq => by cases hq⟩
  obtain ⟨f, hf⟩ := Classical.axiomOfChoice h0
  exact ⟨(fun k => (f k).1, fun k => (f k).2), fun k q hq => hf k q hq⟩
def atW : List Cond := [.arrayClass .byte, .arrayClass .int, .arrayClass .long, .arrayClass .boolean, .arrayOver (.object RX4), .arrayOver (.object RX5), .arrayOver (.object RX7), .arrayOver (.object RX8)]
theorem atW_in : ∀ w ∈ atW, w ∈ lw_tbl := by decide +kernel
theorem gNest_in : ∀ w ∈ gNest, w ∈ lw_tbl := by decide +kernel
def FLw : List Cond := flatC (Jvm.Cond.and given_1 narrow_1)
def stO (i : Nat) : String := (gStrs.getD i ("", 0, "")).1
def stK (i : Nat) : Nat := (gStrs.getD i ("", 0, "")).2.1
def stT (i : Nat) : String := (gStrs.getD i ("", 0, "")).2.2
def stm (i : Nat) : Term := .string (stO i) (stK i)
theorem st_ex : ∀ i, i < 13 → Cond.exactly (stm i) "java/lang/String" ∈ FLw := by decide +kernel
theorem st_co : ∀ i, i < 13 → Cond.eq (.field (stm i) "java/lang/String" "coder" "B") (.int 0) ∈ FLw := by decide +kernel
theorem st_ar : ∀ i, i < 13 → Cond.arrayOf (.field (stm i) "java/lang/String" "value" "[B") .byte ∈ FLw := by decide +kernel
theorem st_le : ∀ i, i < 13 → Cond.eq (.length (.field (stm i) "java/lang/String" "value" "[B")) (.int (Int32.ofNat (gStrLen.getD i 0))) ∈ FLw := by decide +kernel
def elF (w : Cond) : Bool := match w with | .eq (.elem (.field (.string _ _) _ _ _) (.int _)) (.int _) => true | _ => false
def elM (i j : Nat) : Cond := Cond.eq (.elem (.field (stm i) "java/lang/String" "value" "[B") (.int (Int32.ofNat j))) (.int ((gStrByt.getD i []).getD j 0))
theorem el_fl : FLw.filter elF = (List.range 13).flatMap (fun i => (List.range (gStrLen.getD i 0)).map (fun j => elM i j)) := by decide +kernel
theorem st_el : ∀ i, i < 13 → ∀ j, j < gStrLen.getD i 0 → Cond.eq (.elem (.field (stm i) "java/lang/String" "value" "[B") (.int (Int32.ofNat j))) (.int ((gStrByt.getD i []).getD j 0)) ∈ FLw := fun i hi j hj => by
  have h1 : elM i j ∈ FLw.filter elF := by
    rw [el_fl]
    exact List.mem_flatMap.mpr ⟨i, List.mem_range.mpr hi, List.mem_map.mpr ⟨j, List.mem_range.mpr hj, rfl⟩⟩
  exact (List.mem_filter.mp h1).1
def neF (w : Cond) : Bool := match w with | .not (.eq (.string _ _) (.string _ _)) => true | _ => false
def neM (i j : Nat) : Cond := Cond.not (Cond.eq (stm i) (stm j))
theorem ne_fl : FLw.filter neF = (List.range 13).flatMap (fun j => (List.range j).map (fun i => neM i j)) := by decide +kernel
theorem ne_in {i j : Nat} (hj : j < 13) (hi : i < j) : neM i j ∈ FLw := by
  have h1 : neM i j ∈ FLw.filter neF := by
    rw [ne_fl]
    exact List.mem_flatMap.mpr ⟨j, List.mem_range.mpr hj, List.mem_map.mpr ⟨i, List.mem_range.mpr hi, rfl⟩⟩
  exact (List.mem_filter.mp h1).1
theorem st_ne : ∀ i, i < 13 → ∀ j, j < 13 → i ≠ j → Cond.not (Cond.eq (stm i) (stm j)) ∈ FLw ∨ Cond.not (Cond.eq (stm j) (stm i)) ∈ FLw := fun i hi j hj hij => by
  by_cases h : i < j
  · exact Or.inl (ne_in hj h)
  · exact Or.inr (ne_in hi (by omega))
theorem st_N : ∀ i, i < 13 → gStrLen.getD i 0 < 2 ^ 31 := by decide +kernel
theorem st_sr : ∀ i, i < 13 → Cond.stringRef (stO i) (stK i) (stT i) ∈ lw_tbl := by decide +kernel
theorem st_l1 : Cond.laysStatic "java/lang/String" "COMPACT_STRINGS" "Z" ∈ lw_tbl ∧ Cond.initialized "java/lang/String" ∈ lw_tbl ∧ Cond.eq (.static "java/lang/String" "COMPACT_STRINGS" "Z") (.int 1) ∈ FLw := by decide +kernel
theorem st_l2 : Cond.laysStatic "jdk/internal/util/Preconditions" "SIOOBE_FORMATTER" "Ljava/util/function/BiFunction;" ∈ lw_tbl ∧ Cond.initialized "jdk/internal/util/Preconditions" ∈ lw_tbl ∧ Cond.isRef (.static "jdk/internal/util/Preconditions" "SIOOBE_FORMATTER" "Ljava/util/function/BiFunction;") ∈ FLw := by decide +kernel
set_option maxRecDepth 100000 in
set_option maxHeartbeats 4000000 in
theorem gk_ex {l : Launch} {s : State} {b : Nat} (hts : ∀ w ∈ lw_tbl, w.before #[Value.ref b] s = true) (hgv : (Jvm.Cond.and given_1 narrow_1).before #[Value.ref b] s = true) : ∃ g : GC, gL g = l ∧ gB g = s.heap.size ∧ gH0 g = s.heap ∧ GK g s := by
  have hW0 : ∀ w ∈ W0, w.before #[Value.ref b] s = true := fun w hw => hts w (List.mem_filter.mp hw).1
  have hF := flat_of_before _ hgv
  have hF : ∀ w ∈ FLw, w.before #[Value.ref b] s = true := hF
  obtain ⟨D, hD⟩ := cl_known hW0
  have a0 := ar_known (t := .byte) (fun C h => by cases h) (hts _ (atW_in (.arrayClass .byte) (List.mem_of_getElem? (i := 0) rfl)))
  have a1 := ar_known (t := .int) (fun C h => by cases h) (hts _ (atW_in (.arrayClass .int) (List.mem_of_getElem? (i := 1) rfl)))
  have a2 := ar_known (t := .long) (fun C h => by cases h) (hts _ (atW_in (.arrayClass .long) (List.mem_of_getElem? (i := 2) rfl)))
  have a3 := ar_known (t := .boolean) (fun C h => by cases h) (hts _ (atW_in (.arrayClass .boolean) (List.mem_of_getElem? (i := 3) rfl)))
  have o4 := hts _ (atW_in (.arrayOver (.object RX4)) (List.mem_of_getElem? (i := 4) rfl))
  have o5 := hts _ (atW_in (.arrayOver (.object RX5)) (List.mem_of_getElem? (i := 5) rfl))
  have o6 := hts _ (atW_in (.arrayOver (.object RX7)) (List.mem_of_getElem? (i := 6) rfl))
  have o7 := hts _ (atW_in (.arrayOver (.object RX8)) (List.mem_of_getElem? (i := 7) rfl))
  obtain ⟨y0, q0⟩ := a0
  obtain ⟨y1, q1⟩ := a1
  obtain ⟨y2, q2⟩ := a2
  obtain ⟨y3, q3⟩ := a3
  obtain ⟨y4, q4⟩ := ao_known o4
  obtain ⟨y5, q5⟩ := ao_known o5
  obtain ⟨y6, q6⟩ := ao_known o6
  obtain ⟨y7, q7⟩ := ao_known o7
  obtain ⟨adK, adV, hS, hE⟩ := vk_Sof (args := #[Value.ref b]) (s := s) (N := 13) (tm := stm) (len := gStrLen) (byt := gStrByt) (A := fun q => s.heap.size ≤ q) st_N (fun i hi => hF _ (st_ex i hi)) (fun i hi => hF _ (st_co i hi)) (fun i hi => hF _ (st_ar i hi)) (fun i hi => hF _ (st_le i hi)) (fun i hi j hj => hF _ (st_el i hi j hj)) (fun i j hi hj hij => (st_ne i hi j hj hij).elim (fun h => Or.inl (hF _ h)) (fun h => Or.inr (hF _ h))) (fun a h1 h2 => absurd h1 (Nat.not_lt.mpr h2))
  refine ⟨(l, D, s.heap.size, fun k => [y0, y1, y2, y3, y4, y5, y6, y7].getD k 0, (adK, adV), s.heap), rfl, rfl, rfl, ⟨hD, fun k q hq => ?_⟩, fun w hw => ?_, fun C hC => ?_, ⟨fun i own k tx hi => ?_, hS, ?_, ?_⟩, Nat.le_refl _, rfl⟩
  · match k, hq with
    | 0, hq => cases hq; exact q0
    | 1, hq => cases hq; exact q1
    | 2, hq => cases hq; exact q2
    | 3, hq => cases hq; exact q3
    | 4, hq => cases hq; exact q4
    | 5, hq => cases hq; exact q5
    | 6, hq => cases hq; exact q6
    | 7, hq => cases hq; exact q7
    | k + 8, hq => cases hq
  · exact va_tabs (gNest_ok w hw).1 rfl (hts w (gNest_in w hw))
  · simp only [gOver, List.mem_cons, List.not_mem_nil, or_false] at hC
    rcases hC with rfl | rfl | rfl | rfl
    · exact va_AO.of o4
    · exact va_AO.of o5
    · exact va_AO.of o6
    · exact va_AO.of o7
  · have hi13 : i < 13 := (List.getElem?_eq_some_iff.mp hi).1
    have e1 : gStrs.getD i ("", 0, "") = (own, k, tx) := by
      rw [List.getD_eq_getElem?_getD, hi]; rfl
    have e2 : stO i = own := by unfold stO; rw [e1]
    have e3 : stK i = k := by unfold stK; rw [e1]
    have e4 : stT i = tx := by unfold stT; rw [e1]
    have h1 := hts _ (st_sr i hi13)
    have h2 := hE i hi13
    unfold stm at h2
    rw [e2, e3] at h1 h2
    rw [e4] at h1
    exact vk_R.of h1 h2
  · exact va_Zof (hts _ st_l1.1) (hts _ st_l1.2.1) (va_eqt (hF _ st_l1.2.2)) (fun a h1 h2 => absurd h1 (Nat.not_lt.mpr h2))
  · exact va_Zqof (hts _ st_l2.1) (hts _ st_l2.2.1) (hF _ st_l2.2.2) (fun a h1 h2 => absurd h1 (Nat.not_lt.mpr h2))
