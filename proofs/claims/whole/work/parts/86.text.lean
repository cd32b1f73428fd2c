/-! Text -/
def IsI (z : Int) : Prop := -2147483648 ≤ z ∧ z ≤ 2147483647
def TxW (sh : SH) (S : SS) (x : Nat) : Prop := sh x = some (.inl 7) ∧ sh (x + 1) = some (.inr (1, 160)) ∧ sh (x + 2) = some (.inr (1, 3)) ∧ sh (x + 3) = some (.inr (1, 160)) ∧ S.2.2 x 0 = some (x + 1) ∧ S.2.2 x 2 = some (x + 2) ∧ S.2.2 x 4 = some (x + 3) ∧ (0 ≤ S.1 x 1 ∧ S.1 x 1 ≤ 160) ∧ (0 ≤ S.1 x 3 ∧ S.1 x 3 ≤ 3) ∧ (0 ≤ S.1 x 5 ∧ S.1 x 5 ≤ 160) ∧ (∀ i : Int, 0 ≤ S.2.1 (x + 2) i ∧ S.2.1 (x + 2) i ≤ 160) ∧ (∀ i : Int, IsI (S.2.1 (x + 1) i)) ∧ ∀ i : Int, IsI (S.2.1 (x + 3) i)
/-- a list lies in an array from its start on -/
def Lay (xs : Int → Int) (l : List Int) : Prop := ∀ j : Nat, j < l.length → xs j = l.getD j 0
theorem Lay_nil {xs : Int → Int} : Lay xs [] := fun j hj => absurd hj (Nat.not_lt_zero _)
theorem getD_app {l : List Int} {s : Int} {j : Nat} (hj : j < l.length) : (l ++ [s]).getD j 0 = l.getD j 0 := by
  rw [List.getD_eq_getElem?_getD, List.getD_eq_getElem?_getD, List.getElem?_append_left hj]
theorem getD_last {l : List Int} {s : Int} : (l ++ [s]).getD l.length 0 = s := by
  rw [List.getD_eq_getElem?_getD, List.getElem?_append_right (Nat.le_refl _), Nat.sub_self]; rfl
theorem Lay_app {xs : Int → Int} {l : List Int} {s : Int} (h : Lay xs l) : Lay (iup xs l.length s) (l ++ [s]) := fun j hj => by
  rw [List.length_append, List.length_cons, List.length_nil] at hj
  by_cases e : j = l.length
  · rw [e, iup_at, getD_last]
  · rw [iup_ne (by omega), getD_app (by omega)]
    exact h j (by omega)
theorem Lay_pop {xs : Int → Int} {l : List Int} {s : Int} (h : Lay xs (l ++ [s])) : Lay xs l ∧ xs l.length = s := by
  refine ⟨fun j hj => ?_, ?_⟩
  · have := h j (by rw [List.length_append, List.length_cons]; omega)
    rw [getD_app hj] at this
    exact this
  · have := h l.length (by rw [List.length_append, List.length_cons]; omega)
    rw [getD_last] at this
    exact this
set_option maxRecDepth 100000 in
set_option maxHeartbeats 4000000 in
theorem c_X7_begin {g : GC} {sh : SH} {S : SS} {n x : Nat} {Q : Option Value → GA → Nat → Prop} (hW : TxW sh S x) (hq : Q none (hp g sh (setF (setF S x 1 0) x 3 0)) n) : GCall g mX7_begin 1 0 0 [gr g x] (hp g sh S) n Q := by
  have hW' := hW
  obtain ⟨hx, h1, h2, h3, q0, q2, q4, hsz, hpa, htp, hen, hst, hsk⟩ := hW'
  refine GCall.of (by decide) (Nat.le_of_ble_eq_true rfl) (ls := [(0, _)]) rfl ?_
  refine S_aload_n (pc := 0) dX7_begin_0 rfl ?_
  refine G_iconst (pc := 1) dX7_begin_1 ?_
  refine S_putI (pc := 2) dX7_begin_2 fX7_21 (by assumption) rfl ⟨rfl, rfl⟩ ?_
  refine S_aload_n (pc := 5) dX7_begin_5 rfl ?_
  refine G_iconst (pc := 6) dX7_begin_6 ?_
  refine S_putI (pc := 7) dX7_begin_7 fX7_25 (by assumption) rfl ⟨rfl, rfl⟩ ?_
  refine G_vret (pc := 10) dX7_begin_10 rfl (by decide) ?_
  exact hq
set_option maxRecDepth 100000 in
set_option maxHeartbeats 4000000 in
theorem c_X7_add {g : GC} {sh : SH} {S : SS} {n x : Nat} {s : Int} {Q : Option Value → GA → Nat → Prop} (hW : TxW sh S x) (h1' : S.1 x 1 < 160 → Q none (hp g sh (setF (setA S (x + 1) (S.1 x 1) s) x 1 (S.1 x 1 + 1))) n) (h0 : ¬ S.1 x 1 < 160 → Q none (hp g sh S) n) : GCall g mX7_add 1 0 0 [gr g x, .int (iI s)] (hp g sh S) n Q := by
  have hW' := hW
  obtain ⟨hx, h1, h2, h3, q0, q2, q4, hsz, hpa, htp, hen, hst, hsk⟩ := hW'
  refine GCall.of (by decide) (Nat.le_of_ble_eq_true rfl) (ls := [(0, _), (1, _)]) rfl ?_
  have e2 : (setA S (x + 1) (S.1 x 1) s).1 x 1 = S.1 x 1 := rfl
  refine S_aload_n (pc := 0) dX7_add_0 rfl ?_
  refine S_getI (pc := 1) dX7_add_1 fX7_21 (by assumption) rfl ?_
  refine S_aload_n (pc := 4) dX7_add_4 rfl ?_
  refine S_getR (pc := 5) dX7_add_5 fX7_9 (by assumption) rfl (by assumption) ?_
  refine S_alen (pc := 8) dX7_add_8 (Or.inl (by assumption)) ?_
  refine G_icmp_ge (pc := 9) 32 dX7_add_9 rfl (by omega) (fun c9 => ?_) (fun c9 => ?_)
  · skip
    refine G_vret (pc := 32) dX7_add_32 rfl (by decide) ?_
    first | exact h0 (by omega) | exact h1' (by omega)
  · skip
    refine S_aload_n (pc := 12) dX7_add_12 rfl ?_
    refine S_getR (pc := 13) dX7_add_13 fX7_9 (by assumption) rfl (by assumption) ?_
    refine S_aload_n (pc := 16) dX7_add_16 rfl ?_
    refine S_getI (pc := 17) dX7_add_17 fX7_21 (by assumption) rfl ?_
    refine G_iload_n (pc := 20) dX7_add_20 rfl ?_
    refine S_iast (pc := 21) dX7_add_21 (by assumption) (by omega) ?_
    refine S_aload_n (pc := 22) dX7_add_22 rfl ?_
    refine G_dup (pc := 23) dX7_add_23 rfl ?_
    refine S_getI (pc := 24) dX7_add_24 fX7_21 (by assumption) rfl ?_
    rw [e2]
    refine G_iconst (pc := 27) dX7_add_27 ?_
    refine G_iadd (pc := 28) dX7_add_28 ?_
    refine S_putI (pc := 29) dX7_add_29 fX7_21 (by assumption) rfl ⟨rfl, rfl⟩ ?_
    refine G_vret (pc := 32) dX7_add_32 rfl (by decide) ?_
    first | exact h0 (by omega) | exact h1' (by omega)
set_option maxRecDepth 100000 in
set_option maxHeartbeats 4000000 in
theorem c_X7_addName {g : GC} {sh : SH} {S : SS} {n x : Nat} {s : Int} {Q : Option Value → GA → Nat → Prop} (hW : TxW sh S x) (h1' : S.1 x 1 < 160 → Q none (hp g sh (setF (setA S (x + 1) (S.1 x 1) (-1 - s)) x 1 (S.1 x 1 + 1))) n) (h0 : ¬ S.1 x 1 < 160 → Q none (hp g sh S) n) : GCall g mX7_addName 2 0 0 [gr g x, .int (iI s)] (hp g sh S) n Q := by
  have hW' := hW
  obtain ⟨hx, h1, h2, h3, q0, q2, q4, hsz, hpa, htp, hen, hst, hsk⟩ := hW'
  refine GCall.of (by decide) (Nat.le_of_ble_eq_true rfl) (ls := [(0, _), (1, _)]) rfl ?_
  have K : ∀ S' : SS, Q none (hp g sh S') n → G g mX7_addName 2 0 0 7 [(0, gr g x), (1, .int (iI s))] [] (hp g sh S') n 0 0 Q := by
    intro S' kq
    refine G_vret (pc := 7) dX7_addName_7 rfl (by decide) ?_
    exact kq
  refine S_aload_n (pc := 0) dX7_addName_0 rfl ?_
  refine G_iconst (pc := 1) dX7_addName_1 ?_
  refine G_iload_n (pc := 2) dX7_addName_2 rfl ?_
  refine G_isub (pc := 3) dX7_addName_3 ?_
  refine S_callV (pc := 4) (ci := 7) (d2 := 1) (mc2 := 0) (ms2 := 0) (As := [_]) dX7_addName_4 kX7_add lkX7_28 (by assumption) rfl rfl rfl (Nat.le_of_ble_eq_true rfl) ⟨by decide, by decide⟩ (by decide) ?_
  refine c_X7_add hW (fun z => K _ (h1' z)) (fun z => K _ (h0 z))
  skip
set_option maxRecDepth 100000 in
set_option maxHeartbeats 4000000 in
theorem c_X7_endPart {g : GC} {sh : SH} {S : SS} {n x : Nat} {Q : Option Value → GA → Nat → Prop} (hW : TxW sh S x) (h1' : S.1 x 3 < 3 → Q none (hp g sh (setF (setA S (x + 2) (S.1 x 3) (S.1 x 1)) x 3 (S.1 x 3 + 1))) n) (h0 : ¬ S.1 x 3 < 3 → Q none (hp g sh S) n) : GCall g mX7_endPart 1 0 0 [gr g x] (hp g sh S) n Q := by
  have hW' := hW
  obtain ⟨hx, h1, h2, h3, q0, q2, q4, hsz, hpa, htp, hen, hst, hsk⟩ := hW'
  refine GCall.of (by decide) (Nat.le_of_ble_eq_true rfl) (ls := [(0, _)]) rfl ?_
  have e2 : (setA S (x + 2) (S.1 x 3) (S.1 x 1)).1 x 3 = S.1 x 3 := rfl
  refine S_aload_n (pc := 0) dX7_endPart_0 rfl ?_
  refine S_getI (pc := 1) dX7_endPart_1 fX7_25 (by assumption) rfl ?_
  refine S_aload_n (pc := 4) dX7_endPart_4 rfl ?_
  refine S_getR (pc := 5) dX7_endPart_5 fX7_15 (by assumption) rfl (by assumption) ?_
  refine S_alen (pc := 8) dX7_endPart_8 (Or.inl (by assumption)) ?_
  refine G_icmp_ge (pc := 9) 35 dX7_endPart_9 rfl (by omega) (fun c9 => ?_) (fun c9 => ?_)
  · skip
    refine G_vret (pc := 35) dX7_endPart_35 rfl (by decide) ?_
    first | exact h0 (by omega) | exact h1' (by omega)
  · skip
    refine S_aload_n (pc := 12) dX7_endPart_12 rfl ?_
    refine S_getR (pc := 13) dX7_endPart_13 fX7_15 (by assumption) rfl (by assumption) ?_
    refine S_aload_n (pc := 16) dX7_endPart_16 rfl ?_
    refine S_getI (pc := 17) dX7_endPart_17 fX7_25 (by assumption) rfl ?_
    refine S_aload_n (pc := 20) dX7_endPart_20 rfl ?_
    refine S_getI (pc := 21) dX7_endPart_21 fX7_21 (by assumption) rfl ?_
    refine S_iast (pc := 24) dX7_endPart_24 (by assumption) (by omega) ?_
    refine S_aload_n (pc := 25) dX7_endPart_25 rfl ?_
    refine G_dup (pc := 26) dX7_endPart_26 rfl ?_
    refine S_getI (pc := 27) dX7_endPart_27 fX7_25 (by assumption) rfl ?_
    rw [e2]
    refine G_iconst (pc := 30) dX7_endPart_30 ?_
    refine G_iadd (pc := 31) dX7_endPart_31 ?_
    refine S_putI (pc := 32) dX7_endPart_32 fX7_25 (by assumption) rfl ⟨rfl, rfl⟩ ?_
    refine G_vret (pc := 35) dX7_endPart_35 rfl (by decide) ?_
    first | exact h0 (by omega) | exact h1' (by omega)
/-- the same but for a text's stack -/
def TsR (x : Nat) (S S' : SS) : Prop := (∀ a k : Nat, (a ≠ x ∨ k ≠ 5) → S'.1 a k = S.1 a k) ∧ (∀ a : Nat, a ≠ x + 3 → S'.2.1 a = S.2.1 a) ∧ S'.2.2 = S.2.2
theorem TsR_rf {x : Nat} {S : SS} : TsR x S S := ⟨fun _ _ _ => rfl, fun _ _ => rfl, rfl⟩
theorem TsR_tr {x : Nat} {S S' S'' : SS} (h : TsR x S S') (h' : TsR x S' S'') : TsR x S S'' := ⟨fun a k q => (h'.1 a k q).trans (h.1 a k q), fun a q => (h'.2.1 a q).trans (h.2.1 a q), h'.2.2.trans h.2.2⟩
/-- what lies on the stack, the top first -/
def TsK (S : SS) (x : Nat) (st : List Int) : Prop := S.1 x 5 = st.length ∧ Lay (S.2.1 (x + 3)) st.reverse
theorem TxW_s {sh : SH} {S S' : SS} {x : Nat} (h : TsR x S S') (hW : TxW sh S x) (ht : 0 ≤ S'.1 x 5 ∧ S'.1 x 5 ≤ 160) (hk : ∀ i : Int, IsI (S'.2.1 (x + 3) i)) : TxW sh S' x := by
  have hW' := hW
  obtain ⟨hx, h1, h2, h3, q0, q2, q4, hsz, hpa, htp, hen, hst, hsk⟩ := hW'
  exact ⟨hx, h1, h2, h3, by rw [h.2.2]; exact q0, by rw [h.2.2]; exact q2, by rw [h.2.2]; exact q4, by rw [h.1 x 1 (by omega)]; exact hsz, by rw [h.1 x 3 (by omega)]; exact hpa, ht, by rw [h.2.1 (x + 2) (by omega)]; exact hen, by rw [h.2.1 (x + 1) (by omega)]; exact hst, hk⟩
set_option maxRecDepth 100000 in
set_option maxHeartbeats 4000000 in
theorem c_X7_push {g : GC} {sh : SH} {S : SS} {n x : Nat} {v : Int} {st : List Int} {Q : Option Value → GA → Nat → Prop} (hW : TxW sh S x) (hK : TsK S x st) (hl : st.length < 160) (hv : IsI v) (hq : ∀ S' : SS, TsR x S S' → TxW sh S' x → TsK S' x (v :: st) → Q none (hp g sh S') n) : GCall g mX7_push 1 0 0 [gr g x, .int (iI v)] (hp g sh S) n Q := by
  have hW' := hW
  obtain ⟨hx, h1, h2, h3, q0, q2, q4, hsz, hpa, htp, hen, hst, hsk⟩ := hW'
  have hk1 := hK.1
  refine GCall.of (by decide) (Nat.le_of_ble_eq_true rfl) (ls := [(0, _), (1, _)]) rfl ?_
  have e2 : (setA S (x + 3) (S.1 x 5) v).1 x 5 = S.1 x 5 := rfl
  have R : TsR x S (setF (setA S (x + 3) (S.1 x 5) v) x 5 (S.1 x 5 + 1)) := ⟨fun a k q => setF_ne q, fun a q => putA_ne q, rfl⟩
  have eA : (setF (setA S (x + 3) (S.1 x 5) v) x 5 (S.1 x 5 + 1)).2.1 (x + 3) = iup (S.2.1 (x + 3)) (S.1 x 5) v := putA_at
  refine S_aload_n (pc := 0) dX7_push_0 rfl ?_
  refine S_getI (pc := 1) dX7_push_1 fX7_32 (by assumption) rfl ?_
  refine S_aload_n (pc := 4) dX7_push_4 rfl ?_
  refine S_getR (pc := 5) dX7_push_5 fX7_18 (by assumption) rfl (by assumption) ?_
  refine S_alen (pc := 8) dX7_push_8 (Or.inl (by assumption)) ?_
  refine G_icmp_ge_f (pc := 9) 32 dX7_push_9 rfl (by omega) (by omega) ?_
  refine S_aload_n (pc := 12) dX7_push_12 rfl ?_
  refine S_getR (pc := 13) dX7_push_13 fX7_18 (by assumption) rfl (by assumption) ?_
  refine S_aload_n (pc := 16) dX7_push_16 rfl ?_
  refine S_getI (pc := 17) dX7_push_17 fX7_32 (by assumption) rfl ?_
  refine G_iload_n (pc := 20) dX7_push_20 rfl ?_
  refine S_iast (pc := 21) dX7_push_21 (by assumption) (by omega) ?_
  refine S_aload_n (pc := 22) dX7_push_22 rfl ?_
  refine G_dup (pc := 23) dX7_push_23 rfl ?_
  refine S_getI (pc := 24) dX7_push_24 fX7_32 (by assumption) rfl ?_
  rw [e2]
  refine G_iconst (pc := 27) dX7_push_27 ?_
  refine G_iadd (pc := 28) dX7_push_28 ?_
  refine S_putI (pc := 29) dX7_push_29 fX7_32 (by assumption) rfl ⟨rfl, rfl⟩ ?_
  refine G_vret (pc := 32) dX7_push_32 rfl (by decide) ?_
  refine hq _ R (TxW_s R hW (by rw [setF_at]; omega) (fun i => ?_)) ⟨by rw [setF_at, hk1, List.length_cons]; omega, ?_⟩
  · rw [eA]
    by_cases c : i = S.1 x 5
    · rw [c, iup_at]; exact hv
    · rw [iup_ne c]; exact hsk i
  · rw [eA, List.reverse_cons, hk1, ← List.length_reverse]
    exact Lay_app hK.2
set_option maxRecDepth 100000 in
set_option maxHeartbeats 4000000 in
theorem c_X7_pop {g : GC} {sh : SH} {S : SS} {n x : Nat} {st : List Int} {Q : Option Value → GA → Nat → Prop} (hW : TxW sh S x) (hK : TsK S x st) (hq : ∀ S' : SS, TsR x S S' → TxW sh S' x → TsK S' x st.tail → IsI (st.headD 0) → Q (some (.int (iI (st.headD 0)))) (hp g sh S') n) : GCall g mX7_pop 1 0 0 [gr g x] (hp g sh S) n Q := by
  have hW' := hW
  obtain ⟨hx, h1, h2, h3, q0, q2, q4, hsz, hpa, htp, hen, hst, hsk⟩ := hW'
  have hk1 := hK.1
  refine GCall.of (by decide) (Nat.le_of_ble_eq_true rfl) (ls := [(0, _)]) rfl ?_
  cases st with
  | nil =>
    have hk1' : S.1 x 5 = 0 := hk1
    refine S_aload_n (pc := 0) dX7_pop_0 rfl ?_
    refine S_getI (pc := 1) dX7_pop_1 fX7_32 (by assumption) rfl ?_
    rw [hk1']
    refine G_if_gt_f (pc := 4) 9 dX7_pop_4 rfl (by omega) (by decide) ?_
    refine G_iconst (pc := 7) dX7_pop_7 ?_
    refine G_iret (pc := 8) dX7_pop_8 rfl (by decide) ?_
    exact hq S TsR_rf hW hK (by show IsI 0; unfold IsI; omega)
  | cons v st =>
    have hk2 := hK.2
    rw [List.reverse_cons] at hk2
    obtain ⟨l1, l2⟩ := Lay_pop hk2
    rw [List.length_reverse] at l2
    rw [List.length_cons] at hk1
    have R : TsR x S (setF S x 5 (S.1 x 5 - 1)) := ⟨fun a k q => setF_ne q, fun a q => rfl, rfl⟩
    have e5 : (setF S x 5 (S.1 x 5 - 1)).1 x 5 = S.1 x 5 - 1 := setF_at
    have ev : (setF S x 5 (S.1 x 5 - 1)).2.1 (x + 3) (S.1 x 5 - 1) = v := by rw [← l2]; exact congrArg (S.2.1 (x + 3)) (by omega)
    have hv : IsI v := by rw [← l2]; exact hsk _
    refine S_aload_n (pc := 0) dX7_pop_0 rfl ?_
    refine S_getI (pc := 1) dX7_pop_1 fX7_32 (by assumption) rfl ?_
    refine G_if_gt_t (pc := 4) 9 dX7_pop_4 rfl (by omega) (by omega) ?_
    refine S_aload_n (pc := 9) dX7_pop_9 rfl ?_
    refine G_dup (pc := 10) dX7_pop_10 rfl ?_
    refine S_getI (pc := 11) dX7_pop_11 fX7_32 (by assumption) rfl ?_
    refine G_iconst (pc := 14) dX7_pop_14 ?_
    refine G_isub (pc := 15) dX7_pop_15 ?_
    refine S_putI (pc := 16) dX7_pop_16 fX7_32 (by assumption) rfl ⟨rfl, rfl⟩ ?_
    refine S_aload_n (pc := 19) dX7_pop_19 rfl ?_
    refine S_getR (pc := 20) dX7_pop_20 fX7_18 (by assumption) rfl (by assumption) ?_
    refine S_aload_n (pc := 23) dX7_pop_23 rfl ?_
    refine S_getI (pc := 24) dX7_pop_24 fX7_32 (by assumption) rfl ?_
    rw [e5]
    refine S_iald (pc := 27) dX7_pop_27 (by assumption) (by omega) ?_
    rw [ev]
    refine G_iret (pc := 28) dX7_pop_28 rfl (by decide) ?_
    exact hq _ R (TxW_s R hW (by rw [e5]; omega) hsk) ⟨by rw [e5]; show S.1 x 5 - 1 = (st.length : Int); omega, l1⟩ hv
set_option maxRecDepth 100000 in
set_option maxHeartbeats 4000000 in
theorem c_X7_ofTwo {g : GC} {h : GA} {n : Nat} {s a b : Int} {Q : Option Value → GA → Nat → Prop} (hs : IsI s) (ha : IsI a) (hb : IsI b) (hq : Q (some (.int (iI (of2 s a b)))) h n) : GCall g mX7_ofTwo 1 0 0 [.int (iI s), .int (iI a), .int (iI b)] h n Q := by
  unfold IsI at hs ha hb
  refine GCall.of (by decide) (Nat.le_of_ble_eq_true rfl) (ls := [(0, _), (1, _), (2, _)]) rfl ?_
  have hst : s = -11 ∨ s = -12 ∨ s = -14 ∨ s = -15 ∨ s = -16 ∨ s = -17 ∨ ¬ (s = -11 ∨ s = -12 ∨ s = -14 ∨ s = -15 ∨ s = -16 ∨ s = -17) := by omega
  have Kmul : of2 s a b = bw (a * b) → G g mX7_ofTwo 1 0 0 102 [(0, .int (iI s)), (1, .int (iI a)), (2, .int (iI b))] [] h n 0 0 Q := by
    intro e
    rw [e, iI_bw] at hq
    refine G_iload_n (pc := 102) dX7_ofTwo_102 rfl ?_
    refine G_iload_n (pc := 103) dX7_ofTwo_103 rfl ?_
    refine G_imul (pc := 104) dX7_ofTwo_104 ?_
    refine G_iret (pc := 105) dX7_ofTwo_105 rfl (by decide) ?_
    exact hq
  rcases hst with e | e | e | e | e | e | e
  · subst e
    have hz : of2 (-11) a b = (if a ≠ 0 ∨ b ≠ 0 then 1 else 0) := rfl
    rw [hz] at hq
    refine G_iload_n (pc := 0) dX7_ofTwo_0 rfl ?_
    refine G_tin (pc := 1) 6 44 dX7_ofTwo_1 (by omega) (by omega) (by omega) rfl (by decide) ?_
    · skip
      skip
      refine G_iload_n (pc := 44) dX7_ofTwo_44 rfl ?_
      refine G_if_ne (pc := 45) 52 dX7_ofTwo_45 rfl (by omega) (fun c45 => ?_) (fun c45 => ?_)
      · skip
        refine G_iconst (pc := 52) dX7_ofTwo_52 ?_
        refine G_goto (pc := 53) 57 dX7_ofTwo_53 rfl ?_
        refine G_iret (pc := 57) dX7_ofTwo_57 rfl (by decide) ?_
        first | exact hq | (rw [if_pos (by omega)] at hq; exact hq) | (rw [if_neg (by omega)] at hq; exact hq)
      · skip
        refine G_iload_n (pc := 48) dX7_ofTwo_48 rfl ?_
        refine G_if_eq (pc := 49) 56 dX7_ofTwo_49 rfl (by omega) (fun c49 => ?_) (fun c49 => ?_)
        · skip
          refine G_iconst (pc := 56) dX7_ofTwo_56 ?_
          refine G_iret (pc := 57) dX7_ofTwo_57 rfl (by decide) ?_
          first | exact hq | (rw [if_pos (by omega)] at hq; exact hq) | (rw [if_neg (by omega)] at hq; exact hq)
        · skip
          refine G_iconst (pc := 52) dX7_ofTwo_52 ?_
          refine G_goto (pc := 53) 57 dX7_ofTwo_53 rfl ?_
          refine G_iret (pc := 57) dX7_ofTwo_57 rfl (by decide) ?_
          first | exact hq | (rw [if_pos (by omega)] at hq; exact hq) | (rw [if_neg (by omega)] at hq; exact hq)
  · subst e
    have hz : of2 (-12) a b = (if a ≠ 0 ∧ b ≠ 0 then 1 else 0) := rfl
    rw [hz] at hq
    refine G_iload_n (pc := 0) dX7_ofTwo_0 rfl ?_
    refine G_tin (pc := 1) 5 58 dX7_ofTwo_1 (by omega) (by omega) (by omega) rfl (by decide) ?_
    · skip
      skip
      refine G_iload_n (pc := 58) dX7_ofTwo_58 rfl ?_
      refine G_if_eq (pc := 59) 70 dX7_ofTwo_59 rfl (by omega) (fun c59 => ?_) (fun c59 => ?_)
      · skip
        refine G_iconst (pc := 70) dX7_ofTwo_70 ?_
        refine G_iret (pc := 71) dX7_ofTwo_71 rfl (by decide) ?_
        first | exact hq | (rw [if_pos (by omega)] at hq; exact hq) | (rw [if_neg (by omega)] at hq; exact hq)
      · skip
        refine G_iload_n (pc := 62) dX7_ofTwo_62 rfl ?_
        refine G_if_eq (pc := 63) 70 dX7_ofTwo_63 rfl (by omega) (fun c63 => ?_) (fun c63 => ?_)
        · skip
          refine G_iconst (pc := 70) dX7_ofTwo_70 ?_
          refine G_iret (pc := 71) dX7_ofTwo_71 rfl (by decide) ?_
          first | exact hq | (rw [if_pos (by omega)] at hq; exact hq) | (rw [if_neg (by omega)] at hq; exact hq)
        · skip
          refine G_iconst (pc := 66) dX7_ofTwo_66 ?_
          refine G_goto (pc := 67) 71 dX7_ofTwo_67 rfl ?_
          refine G_iret (pc := 71) dX7_ofTwo_71 rfl (by decide) ?_
          first | exact hq | (rw [if_pos (by omega)] at hq; exact hq) | (rw [if_neg (by omega)] at hq; exact hq)
  · subst e
    have hz : of2 (-14) a b = (if a < b then 1 else 0) := rfl
    rw [hz] at hq
    refine G_iload_n (pc := 0) dX7_ofTwo_0 rfl ?_
    refine G_tin (pc := 1) 3 72 dX7_ofTwo_1 (by omega) (by omega) (by omega) rfl (by decide) ?_
    · skip
      skip
      refine G_iload_n (pc := 72) dX7_ofTwo_72 rfl ?_
      refine G_iload_n (pc := 73) dX7_ofTwo_73 rfl ?_
      refine G_icmp_ge (pc := 74) 81 dX7_ofTwo_74 rfl (by omega) (fun c74 => ?_) (fun c74 => ?_)
      · skip
        refine G_iconst (pc := 81) dX7_ofTwo_81 ?_
        refine G_iret (pc := 82) dX7_ofTwo_82 rfl (by decide) ?_
        first | exact hq | (rw [if_pos (by omega)] at hq; exact hq) | (rw [if_neg (by omega)] at hq; exact hq)
      · skip
        refine G_iconst (pc := 77) dX7_ofTwo_77 ?_
        refine G_goto (pc := 78) 82 dX7_ofTwo_78 rfl ?_
        refine G_iret (pc := 82) dX7_ofTwo_82 rfl (by decide) ?_
        first | exact hq | (rw [if_pos (by omega)] at hq; exact hq) | (rw [if_neg (by omega)] at hq; exact hq)
  · subst e
    have hz : of2 (-15) a b = (if a = b then 1 else 0) := rfl
    rw [hz] at hq
    refine G_iload_n (pc := 0) dX7_ofTwo_0 rfl ?_
    refine G_tin (pc := 1) 2 83 dX7_ofTwo_1 (by omega) (by omega) (by omega) rfl (by decide) ?_
    · skip
      skip
      refine G_iload_n (pc := 83) dX7_ofTwo_83 rfl ?_
      refine G_iload_n (pc := 84) dX7_ofTwo_84 rfl ?_
      refine G_icmp_ne (pc := 85) 92 dX7_ofTwo_85 rfl (by omega) (fun c85 => ?_) (fun c85 => ?_)
      · skip
        refine G_iconst (pc := 92) dX7_ofTwo_92 ?_
        refine G_iret (pc := 93) dX7_ofTwo_93 rfl (by decide) ?_
        first | exact hq | (rw [if_pos (by omega)] at hq; exact hq) | (rw [if_neg (by omega)] at hq; exact hq)
      · skip
        refine G_iconst (pc := 88) dX7_ofTwo_88 ?_
        refine G_goto (pc := 89) 93 dX7_ofTwo_89 rfl ?_
        refine G_iret (pc := 93) dX7_ofTwo_93 rfl (by decide) ?_
        first | exact hq | (rw [if_pos (by omega)] at hq; exact hq) | (rw [if_neg (by omega)] at hq; exact hq)
  · subst e
    have hz : of2 (-16) a b = bw (a + b) := rfl
    rw [hz, iI_bw] at hq
    refine G_iload_n (pc := 0) dX7_ofTwo_0 rfl ?_
    refine G_tin (pc := 1) 1 94 dX7_ofTwo_1 (by omega) (by omega) (by omega) rfl (by decide) ?_
    · skip
      skip
      refine G_iload_n (pc := 94) dX7_ofTwo_94 rfl ?_
      refine G_iload_n (pc := 95) dX7_ofTwo_95 rfl ?_
      refine G_iadd (pc := 96) dX7_ofTwo_96 ?_
      refine G_iret (pc := 97) dX7_ofTwo_97 rfl (by decide) ?_
      first | exact hq | (rw [if_pos (by omega)] at hq; exact hq) | (rw [if_neg (by omega)] at hq; exact hq)
  · subst e
    have hz : of2 (-17) a b = bw (a - b) := rfl
    rw [hz, iI_bw] at hq
    refine G_iload_n (pc := 0) dX7_ofTwo_0 rfl ?_
    refine G_tin (pc := 1) 0 98 dX7_ofTwo_1 (by omega) (by omega) (by omega) rfl (by decide) ?_
    · skip
      skip
      refine G_iload_n (pc := 98) dX7_ofTwo_98 rfl ?_
      refine G_iload_n (pc := 99) dX7_ofTwo_99 rfl ?_
      refine G_isub (pc := 100) dX7_ofTwo_100 ?_
      refine G_iret (pc := 101) dX7_ofTwo_101 rfl (by decide) ?_
      first | exact hq | (rw [if_pos (by omega)] at hq; exact hq) | (rw [if_neg (by omega)] at hq; exact hq)
  · have hz : of2 s a b = bw (a * b) := by
      unfold of2
      rw [if_neg (by omega), if_neg (by omega), if_neg (by omega), if_neg (by omega), if_neg (by omega), if_neg (by omega)]
    by_cases c13 : s = -13
    · subst c13
      refine G_iload_n (pc := 0) dX7_ofTwo_0 rfl ?_
      refine G_tin (pc := 1) 4 102 dX7_ofTwo_1 (by omega) (by omega) (by omega) rfl (by decide) ?_
      · skip
        skip
        exact Kmul hz
    · skip
      refine G_iload_n (pc := 0) dX7_ofTwo_0 rfl ?_
      refine G_tout (pc := 1) 102 dX7_ofTwo_1 (by omega) (by omega) (by decide) ?_
      · skip
        skip
        exact Kmul hz
set_option maxRecDepth 100000 in
set_option maxHeartbeats 4000000 in
theorem c_X7_doStep {g : GC} {sh : SH} {S : SS} {n x : Nat} {s : Int} {env : Int → Int} {st : List Int} {Q : Option Value → GA → Nat → Prop} (hW : TxW sh S x) (hK : TsK S x st) (hl : st.length < 160) (hs : IsI s) (h10 : sh 10 = some (.inr (1, 6))) (hx10 : 10 ≠ x + 3) (henv : S.2.1 10 = env) (he : ∀ i : Int, IsI (env i)) (hq : ∀ S' : SS, TsR x S S' → TxW sh S' x → TsK S' x (stp env s st) → Q none (hp g sh S') n) : GCall g mX7_doStep 2 0 0 [gr g x, .int (iI s), gr g 10] (hp g sh S) n Q := by
  have hW' := hW
  obtain ⟨hx, h1, h2, h3, q0, q2, q4, hsz, hpa, htp, hen, hst, hsk⟩ := hW'
  have hsb := hs
  unfold IsI at hsb
  have hstp : ∀ v : List Int, stp env s st = v → (∀ S' : SS, TsR x S S' → TxW sh S' x → TsK S' x v → Q none (hp g sh S') n) := fun v hv => by rw [← hv]; exact hq
  have Kend : ∀ (S1 : SS) (v : List Int), stp env s st = v → TsR x S S1 → TxW sh S1 x → TsK S1 x v → G g mX7_doStep 2 0 0 100 [(0, gr g x), (1, .int (iI s)), (2, gr g 10)] [] (hp g sh S1) n 0 0 Q := by
    intro S1 v hv r1 r2 r3
    have := hstp v hv S1 r1 r2 r3
    refine G_vret (pc := 100) dX7_doStep_100 rfl (by decide) ?_
    exact this
  refine GCall.of (by decide) (Nat.le_of_ble_eq_true rfl) (ls := [(0, _), (1, _), (2, _)]) rfl ?_
  by_cases c0 : 0 ≤ s
  · have ev : stp env s st = s :: st := if_pos c0
    refine G_iload_n (pc := 0) dX7_doStep_0 rfl ?_
    refine G_if_lt_f (pc := 1) 12 dX7_doStep_1 rfl (by omega) (by omega) ?_
    refine S_aload_n (pc := 4) dX7_doStep_4 rfl ?_
    refine G_iload_n (pc := 5) dX7_doStep_5 rfl ?_
    refine S_callV (pc := 6) (ci := 7) (d2 := 1) (mc2 := 0) (ms2 := 0) (As := [_]) dX7_doStep_6 kX7_push lkX7_53 (by assumption) rfl rfl rfl (Nat.le_of_ble_eq_true rfl) ⟨by decide, by decide⟩ (by decide) ?_
    refine c_X7_push hW hK hl hs (fun S1 r1 r2 r3 => ?_)
    · show G _ _ _ _ _ _ _ _ _ _ _ _ _
      refine G_goto (pc := 9) 100 dX7_doStep_9 rfl ?_
      exact Kend S1 _ ev r1 r2 r3
  · by_cases c6 : -6 ≤ s
    · have ev : stp env s st = env (-1 - s) :: st := (if_neg c0).trans (if_pos c6)
      have hev := he (-1 - s)
      refine G_iload_n (pc := 0) dX7_doStep_0 rfl ?_
      refine G_if_lt_t (pc := 1) 12 dX7_doStep_1 rfl (by omega) (by omega) ?_
      refine G_iconst (pc := 12) dX7_doStep_12 ?_
      refine G_iload_n (pc := 13) dX7_doStep_13 rfl ?_
      refine G_isub (pc := 14) dX7_doStep_14 ?_
      refine S_aload_n (pc := 15) dX7_doStep_15 rfl ?_
      refine S_alen (pc := 16) dX7_doStep_16 (Or.inl (by assumption)) ?_
      refine G_callSN (pc := 17) (d2 := 1) (mc2 := 0) (ms2 := 0) (As := [_, _]) dX7_doStep_17 kX9_isWithin lkX7_35 rfl rfl (Nat.le_of_ble_eq_true rfl) ⟨by decide, by decide⟩ (by decide) ?_
      refine c_X9_isWithin (by omega) (fun _ => ?_) (fun z => absurd (by omega) z)
      · show G _ _ _ _ _ _ _ _ _ _ _ _ _
        refine G_if_eq_f (pc := 20) 35 dX7_doStep_20 rfl (by decide) (by decide) ?_
        refine S_aload_n (pc := 23) dX7_doStep_23 rfl ?_
        refine S_aload_n (pc := 24) dX7_doStep_24 rfl ?_
        refine G_iconst (pc := 25) dX7_doStep_25 ?_
        refine G_iload_n (pc := 26) dX7_doStep_26 rfl ?_
        refine G_isub (pc := 27) dX7_doStep_27 ?_
        refine S_iald (pc := 28) dX7_doStep_28 (by assumption) (by omega) ?_
        rw [henv]
        refine S_callV (pc := 29) (ci := 7) (d2 := 1) (mc2 := 0) (ms2 := 0) (As := [_]) dX7_doStep_29 kX7_push lkX7_53 (by assumption) rfl rfl rfl (Nat.le_of_ble_eq_true rfl) ⟨by decide, by decide⟩ (by decide) ?_
        refine c_X7_push hW hK hl hev (fun S1 r1 r2 r3 => ?_)
        · show G _ _ _ _ _ _ _ _ _ _ _ _ _
          refine G_goto (pc := 32) 100 dX7_doStep_32 rfl ?_
          exact Kend S1 _ ev r1 r2 r3
    · by_cases c13 : s = -13
      · have ev : stp env s st = (if st.headD 0 = 0 then 1 else 0) :: st.tail := (if_neg c0).trans ((if_neg c6).trans (if_pos c13))
        have hlt : st.tail.length < 160 := by rw [List.length_tail]; omega
        refine G_iload_n (pc := 0) dX7_doStep_0 rfl ?_
        refine G_if_lt_t (pc := 1) 12 dX7_doStep_1 rfl (by omega) (by omega) ?_
        refine G_iconst (pc := 12) dX7_doStep_12 ?_
        refine G_iload_n (pc := 13) dX7_doStep_13 rfl ?_
        refine G_isub (pc := 14) dX7_doStep_14 ?_
        refine S_aload_n (pc := 15) dX7_doStep_15 rfl ?_
        refine S_alen (pc := 16) dX7_doStep_16 (Or.inl (by assumption)) ?_
        refine G_callSN (pc := 17) (d2 := 1) (mc2 := 0) (ms2 := 0) (As := [_, _]) dX7_doStep_17 kX9_isWithin lkX7_35 rfl rfl (Nat.le_of_ble_eq_true rfl) ⟨by decide, by decide⟩ (by decide) ?_
        refine c_X9_isWithin (by omega) (fun z => absurd z (by omega)) (fun _ => ?_)
        · show G _ _ _ _ _ _ _ _ _ _ _ _ _
          refine G_if_eq_t (pc := 20) 35 dX7_doStep_20 rfl (by decide) (by decide) ?_
          refine G_iload_n (pc := 35) dX7_doStep_35 rfl ?_
          refine G_bipush (pc := 36) dX7_doStep_36 rfl ?_
          refine G_icmp_ne_f (pc := 38) 60 dX7_doStep_38 rfl (by omega) (by omega) ?_
          refine S_aload_n (pc := 41) dX7_doStep_41 rfl ?_
          refine S_aload_n (pc := 42) dX7_doStep_42 rfl ?_
          refine S_callV (pc := 43) (ci := 7) (d2 := 1) (mc2 := 0) (ms2 := 0) (As := []) dX7_doStep_43 kX7_pop lkX7_49 (by assumption) rfl rfl rfl (Nat.le_of_ble_eq_true rfl) ⟨by decide, by decide⟩ (by decide) ?_
          refine c_X7_pop hW hK (fun S1 r1 r2 r3 r4 => ?_)
          unfold IsI at r4
          · show G _ _ _ _ _ _ _ _ _ _ _ _ _
            refine G_if_ne (pc := 46) 53 dX7_doStep_46 rfl (by omega) (fun c46 => ?_) (fun c46 => ?_)
            · skip
              refine G_iconst (pc := 53) dX7_doStep_53 ?_
              refine S_callV (pc := 54) (ci := 7) (d2 := 1) (mc2 := 0) (ms2 := 0) (As := [_]) dX7_doStep_54 kX7_push lkX7_53 (by assumption) rfl rfl rfl (Nat.le_of_ble_eq_true rfl) ⟨by decide, by decide⟩ (by decide) ?_
              refine c_X7_push r2 r3 hlt (by unfold IsI; omega) (fun S2 p1 p2 p3 => ?_)
              · show G _ _ _ _ _ _ _ _ _ _ _ _ _
                refine G_goto (pc := 57) 100 dX7_doStep_57 rfl ?_
                first
                  | exact Kend S2 _ (ev.trans (by rw [if_pos (by omega)])) (TsR_tr r1 p1) p2 p3
                  | exact Kend S2 _ (ev.trans (by rw [if_neg (by omega)])) (TsR_tr r1 p1) p2 p3
            · skip
              refine G_iconst (pc := 49) dX7_doStep_49 ?_
              refine G_goto (pc := 50) 54 dX7_doStep_50 rfl ?_
              refine S_callV (pc := 54) (ci := 7) (d2 := 1) (mc2 := 0) (ms2 := 0) (As := [_]) dX7_doStep_54 kX7_push lkX7_53 (by assumption) rfl rfl rfl (Nat.le_of_ble_eq_true rfl) ⟨by decide, by decide⟩ (by decide) ?_
              refine c_X7_push r2 r3 hlt (by unfold IsI; omega) (fun S2 p1 p2 p3 => ?_)
              · show G _ _ _ _ _ _ _ _ _ _ _ _ _
                refine G_goto (pc := 57) 100 dX7_doStep_57 rfl ?_
                first
                  | exact Kend S2 _ (ev.trans (by rw [if_pos (by omega)])) (TsR_tr r1 p1) p2 p3
                  | exact Kend S2 _ (ev.trans (by rw [if_neg (by omega)])) (TsR_tr r1 p1) p2 p3
      · by_cases c19 : s = -19
        · have ev : stp env s st = bw (-(st.headD 0)) :: st.tail := (if_neg c0).trans ((if_neg c6).trans ((if_neg c13).trans (if_pos c19)))
          have hlt : st.tail.length < 160 := by rw [List.length_tail]; omega
          refine G_iload_n (pc := 0) dX7_doStep_0 rfl ?_
          refine G_if_lt_t (pc := 1) 12 dX7_doStep_1 rfl (by omega) (by omega) ?_
          refine G_iconst (pc := 12) dX7_doStep_12 ?_
          refine G_iload_n (pc := 13) dX7_doStep_13 rfl ?_
          refine G_isub (pc := 14) dX7_doStep_14 ?_
          refine S_aload_n (pc := 15) dX7_doStep_15 rfl ?_
          refine S_alen (pc := 16) dX7_doStep_16 (Or.inl (by assumption)) ?_
          refine G_callSN (pc := 17) (d2 := 1) (mc2 := 0) (ms2 := 0) (As := [_, _]) dX7_doStep_17 kX9_isWithin lkX7_35 rfl rfl (Nat.le_of_ble_eq_true rfl) ⟨by decide, by decide⟩ (by decide) ?_
          refine c_X9_isWithin (by omega) (fun z => absurd z (by omega)) (fun _ => ?_)
          · show G _ _ _ _ _ _ _ _ _ _ _ _ _
            refine G_if_eq_t (pc := 20) 35 dX7_doStep_20 rfl (by decide) (by decide) ?_
            refine G_iload_n (pc := 35) dX7_doStep_35 rfl ?_
            refine G_bipush (pc := 36) dX7_doStep_36 rfl ?_
            refine G_icmp_ne_t (pc := 38) 60 dX7_doStep_38 rfl (by omega) (by omega) ?_
            refine G_iload_n (pc := 60) dX7_doStep_60 rfl ?_
            refine G_bipush (pc := 61) dX7_doStep_61 rfl ?_
            refine G_icmp_ne_f (pc := 63) 78 dX7_doStep_63 rfl (by omega) (by omega) ?_
            refine S_aload_n (pc := 66) dX7_doStep_66 rfl ?_
            refine S_aload_n (pc := 67) dX7_doStep_67 rfl ?_
            refine S_callV (pc := 68) (ci := 7) (d2 := 1) (mc2 := 0) (ms2 := 0) (As := []) dX7_doStep_68 kX7_pop lkX7_49 (by assumption) rfl rfl rfl (Nat.le_of_ble_eq_true rfl) ⟨by decide, by decide⟩ (by decide) ?_
            refine c_X7_pop hW hK (fun S1 r1 r2 r3 r4 => ?_)
            · show G _ _ _ _ _ _ _ _ _ _ _ _ _
              refine G_ineg (pc := 71) dX7_doStep_71 ?_
              rw [← iI_bw (z := -(st.headD 0))]
              refine S_callV (pc := 72) (ci := 7) (d2 := 1) (mc2 := 0) (ms2 := 0) (As := [_]) dX7_doStep_72 kX7_push lkX7_53 (by assumption) rfl rfl rfl (Nat.le_of_ble_eq_true rfl) ⟨by decide, by decide⟩ (by decide) ?_
              refine c_X7_push r2 r3 hlt bw_bd (fun S2 p1 p2 p3 => ?_)
              · show G _ _ _ _ _ _ _ _ _ _ _ _ _
                refine G_goto (pc := 75) 100 dX7_doStep_75 rfl ?_
                exact Kend S2 _ ev (TsR_tr r1 p1) p2 p3
        · have ev : stp env s st = of2 s (st.tail.headD 0) (st.headD 0) :: st.tail.tail := (if_neg c0).trans ((if_neg c6).trans ((if_neg c13).trans (if_neg c19)))
          have hlt : st.tail.tail.length < 160 := by rw [List.length_tail, List.length_tail]; omega
          refine G_iload_n (pc := 0) dX7_doStep_0 rfl ?_
          refine G_if_lt_t (pc := 1) 12 dX7_doStep_1 rfl (by omega) (by omega) ?_
          refine G_iconst (pc := 12) dX7_doStep_12 ?_
          refine G_iload_n (pc := 13) dX7_doStep_13 rfl ?_
          refine G_isub (pc := 14) dX7_doStep_14 ?_
          refine S_aload_n (pc := 15) dX7_doStep_15 rfl ?_
          refine S_alen (pc := 16) dX7_doStep_16 (Or.inl (by assumption)) ?_
          refine G_callSN (pc := 17) (d2 := 1) (mc2 := 0) (ms2 := 0) (As := [_, _]) dX7_doStep_17 kX9_isWithin lkX7_35 rfl rfl (Nat.le_of_ble_eq_true rfl) ⟨by decide, by decide⟩ (by decide) ?_
          refine c_X9_isWithin (by omega) (fun z => absurd z (by omega)) (fun _ => ?_)
          · show G _ _ _ _ _ _ _ _ _ _ _ _ _
            refine G_if_eq_t (pc := 20) 35 dX7_doStep_20 rfl (by decide) (by decide) ?_
            refine G_iload_n (pc := 35) dX7_doStep_35 rfl ?_
            refine G_bipush (pc := 36) dX7_doStep_36 rfl ?_
            refine G_icmp_ne_t (pc := 38) 60 dX7_doStep_38 rfl (by omega) (by omega) ?_
            refine G_iload_n (pc := 60) dX7_doStep_60 rfl ?_
            refine G_bipush (pc := 61) dX7_doStep_61 rfl ?_
            refine G_icmp_ne_t (pc := 63) 78 dX7_doStep_63 rfl (by omega) (by omega) ?_
            refine S_aload_n (pc := 78) dX7_doStep_78 rfl ?_
            refine S_callV (pc := 79) (ci := 7) (d2 := 1) (mc2 := 0) (ms2 := 0) (As := []) dX7_doStep_79 kX7_pop lkX7_49 (by assumption) rfl rfl rfl (Nat.le_of_ble_eq_true rfl) ⟨by decide, by decide⟩ (by decide) ?_
            refine c_X7_pop hW hK (fun S1 r1 r2 r3 r4 => ?_)
            · show G _ _ _ _ _ _ _ _ _ _ _ _ _
              refine G_istore_n (pc := 82) (ls' := [(3, _), (0, _), (1, _), (2, _)]) dX7_doStep_82 (by decide) rfl ?_
              refine S_aload_n (pc := 83) dX7_doStep_83 rfl ?_
              refine S_callV (pc := 84) (ci := 7) (d2 := 1) (mc2 := 0) (ms2 := 0) (As := []) dX7_doStep_84 kX7_pop lkX7_49 (by assumption) rfl rfl rfl (Nat.le_of_ble_eq_true rfl) ⟨by decide, by decide⟩ (by decide) ?_
              refine c_X7_pop r2 r3 (fun S2 p1 p2 p3 p4 => ?_)
              · show G _ _ _ _ _ _ _ _ _ _ _ _ _
                refine G_istore (pc := 87) (ls' := [(4, _), (3, _), (0, _), (1, _), (2, _)]) dX7_doStep_87 (by decide) rfl ?_
                refine S_aload_n (pc := 89) dX7_doStep_89 rfl ?_
                refine G_iload_n (pc := 90) dX7_doStep_90 rfl ?_
                refine G_iload (pc := 91) dX7_doStep_91 rfl ?_
                refine G_iload_n (pc := 93) dX7_doStep_93 rfl ?_
                refine G_callS (pc := 94) (d2 := 1) (mc2 := 0) (ms2 := 0) (As := [_, _, _]) dX7_doStep_94 kX7_ofTwo lkX7_56 rfl rfl (Nat.le_of_ble_eq_true rfl) ⟨by decide, by decide⟩ (by decide) ?_
                refine c_X7_ofTwo hs p4 r4 ?_
                · show G _ _ _ _ _ _ _ _ _ _ _ _ _
                  refine S_callV (pc := 97) (ci := 7) (d2 := 1) (mc2 := 0) (ms2 := 0) (As := [_]) dX7_doStep_97 kX7_push lkX7_53 (by assumption) rfl rfl rfl (Nat.le_of_ble_eq_true rfl) ⟨by decide, by decide⟩ (by decide) ?_
                  refine c_X7_push p2 p3 hlt of2_bd (fun S3 o1 o2 o3 => ?_)
                  · show G _ _ _ _ _ _ _ _ _ _ _ _ _
                    refine G_ls (ls' := [(0, _), (1, _), (2, _)]) (lsub_c rfl (lsub_c rfl (lsub_c rfl lsub_n))) ?_
                    exact Kend S3 _ ev (TsR_tr (TsR_tr r1 p1) o1) o2 o3
/-- a TEXT's steps, part by part -/
def TxP (S : SS) (x : Nat) (X : List Int × List Int × List Int) : Prop := S.1 x 1 = (X.1.length + X.2.1.length + X.2.2.length : Nat) ∧ S.1 x 3 = 3 ∧ S.2.1 (x + 2) 0 = (X.1.length : Nat) ∧ S.2.1 (x + 2) 1 = (X.1.length + X.2.1.length : Nat) ∧ S.2.1 (x + 2) 2 = (X.1.length + X.2.1.length + X.2.2.length : Nat) ∧ Lay (S.2.1 (x + 1)) (X.1 ++ X.2.1 ++ X.2.2)
theorem stp_len {env : Int → Int} {s : Int} {st : List Int} : (stp env s st).length ≤ st.length + 1 := by
  unfold stp
  repeat' split
  all_goals (simp only [List.length_cons, List.length_tail]; omega)
set_option maxRecDepth 100000 in
set_option maxHeartbeats 4000000 in
theorem l_X7_worth {g : GC} {sh : SH} {S : SS} {n x : Nat} {env xs : Int → Int} {pt a b : Int} {fin : List Int} {Q : Option Value → GA → Nat → Prop} (h10 : sh 10 = some (.inr (1, 6))) (hx10 : 10 ≠ x + 3) (he : ∀ i : Int, IsI (env i)) (hab : 0 ≤ a ∧ b ≤ 160) (hxs : ∀ i : Int, IsI (xs i))
    (hq : ∀ S' : SS, TsR x S S' → TxW sh S' x → TsK S' x fin → G g mX7_worth 3 0 0 74 [(3, .int (iI b)), (0, gr g x), (1, .int (iI pt)), (2, gr g 10)] [] (hp g sh S') n 0 0 Q) : ∀ (k : Nat) (i : Int) (l st : List Int) (S1 : SS), i + k = b → a ≤ i → l.length = k → (∀ j : Nat, j < k → xs (i + j) = l.getD j 0) → (st.length : Int) ≤ i → rnn env l st = fin → TsR x S S1 → TxW sh S1 x → TsK S1 x st → S1.2.1 10 = env → S1.2.1 (x + 1) = xs → G g mX7_worth 3 0 0 50 [(4, .int (iI i)), (3, .int (iI b)), (0, gr g x), (1, .int (iI pt)), (2, gr g 10)] [] (hp g sh S1) n 0 0 Q := by
  intro k
  induction k with
  | zero =>
    intro i l st S1 hi ha hl hll hsl hfin r1 r2 r3 r4 r5
    have e : l = [] := List.eq_nil_of_length_eq_zero hl
    subst e
    have hfin' : st = fin := hfin
    subst hfin'
    have hk := hq S1 r1 r2 r3
    refine G_iload (pc := 50) dX7_worth_50 rfl ?_
    refine G_iload_n (pc := 52) dX7_worth_52 rfl ?_
    refine G_icmp_ge_t (pc := 53) 74 dX7_worth_53 rfl (by omega) (by omega) ?_
    refine G_ls (ls' := [(3, _), (0, _), (1, _), (2, _)]) (lsub_c rfl (lsub_c rfl (lsub_c rfl (lsub_c rfl lsub_n)))) ?_
    exact hk
  | succ k ih =>
    intro i l st S1 hi ha hl hll hsl hfin r1 r2 r3 r4 r5
    cases l with
    | nil => exact absurd hl (by rw [List.length_nil]; omega)
    | cons s l =>
      have hs : xs i = s := by
        have := hll 0 (by omega)
        rw [show i + ((0 : Nat) : Int) = i by omega] at this
        exact this
      have hW' := r2
      obtain ⟨hx, h1, h2, h3, q0, q2, q4, hsz, hpa, htp, hen, hst, hsk⟩ := hW'
      have hsI : IsI s := by rw [← hs]; exact hxs i
      have e5 : S1.2.1 (x + 1) i = s := by rw [r5]; exact hs
      have hn : ∀ S2 : SS, TsR x S1 S2 → TxW sh S2 x → TsK S2 x (stp env s st) → G g mX7_worth 3 0 0 50 [(4, .int (iI (i + 1))), (3, .int (iI b)), (0, gr g x), (1, .int (iI pt)), (2, gr g 10)] [] (hp g sh S2) n 0 0 Q := fun S2 p1 p2 p3 => ih (i + 1) l (stp env s st) S2 (by omega) (by omega) (by rw [List.length_cons] at hl; omega) (fun j hj => by
        have := hll (j + 1) (by omega)
        rw [show i + ((j + 1 : Nat) : Int) = i + 1 + j by omega] at this
        exact this) (by have := stp_len (env := env) (s := s) (st := st); omega) hfin (TsR_tr r1 p1) p2 p3 ((p1.2.1 10 hx10).trans r4) ((p1.2.1 (x + 1) (by omega)).trans r5)
      refine G_iload (pc := 50) dX7_worth_50 rfl ?_
      refine G_iload_n (pc := 52) dX7_worth_52 rfl ?_
      refine G_icmp_ge_f (pc := 53) 74 dX7_worth_53 rfl (by omega) (by omega) ?_
      refine S_aload_n (pc := 56) dX7_worth_56 rfl ?_
      refine S_aload_n (pc := 57) dX7_worth_57 rfl ?_
      refine S_getR (pc := 58) dX7_worth_58 fX7_9 (by assumption) rfl (by assumption) ?_
      refine G_iload (pc := 61) dX7_worth_61 rfl ?_
      refine S_iald (pc := 63) dX7_worth_63 (by assumption) (by omega) ?_
      rw [e5]
      refine S_aload_n (pc := 64) dX7_worth_64 rfl ?_
      refine S_callV (pc := 65) (ci := 7) (d2 := 2) (mc2 := 0) (ms2 := 0) (As := [_, _]) dX7_worth_65 kX7_doStep lkX7_45 (by assumption) rfl rfl rfl (Nat.le_of_ble_eq_true rfl) ⟨by decide, by decide⟩ (by decide) ?_
      refine c_X7_doStep r2 r3 (by omega) hsI h10 hx10 r4 he (fun S2 p1 p2 p3 => ?_)
      · show G _ _ _ _ _ _ _ _ _ _ _ _ _
        refine G_iinc (pc := 68) (ls' := [(4, _), (3, _), (0, _), (1, _), (2, _)]) dX7_worth_68 rfl (by decide) rfl ?_
        refine G_goto (pc := 71) 50 dX7_worth_71 rfl ?_
        exact hn S2 p1 p2 p3
theorem Lay_mid {xs : Int → Int} {A l C : List Int} (h : Lay xs (A ++ l ++ C)) : ∀ j : Nat, j < l.length → xs ((A.length : Nat) + j : Int) = l.getD j 0 := fun j hj => by
  have := h (A.length + j) (by rw [List.length_append, List.length_append]; omega)
  rw [show ((A.length : Nat) + j : Int) = ((A.length + j : Nat) : Int) by omega, this, List.getD_eq_getElem?_getD, List.getD_eq_getElem?_getD, List.getElem?_append_left (by rw [List.length_append]; omega), List.getElem?_append_right (by omega), Nat.add_sub_cancel_left]
set_option maxRecDepth 100000 in
set_option maxHeartbeats 4000000 in
theorem c_X7_worth {g : GC} {sh : SH} {S : SS} {n x : Nat} {env : Int → Int} {pt : Int} {X : List Int × List Int × List Int} {Q : Option Value → GA → Nat → Prop} (hW : TxW sh S x) (hP : TxP S x X) (hpt : 0 ≤ pt ∧ pt ≤ 2) (h10 : sh 10 = some (.inr (1, 6))) (hx10 : 10 ≠ x + 3) (henv : S.2.1 10 = env) (he : ∀ i : Int, IsI (env i)) (hV : rnn env (tprt X pt) [] = [sayv env (tprt X pt)]) (hq : ∀ S' : SS, TsR x S S' → TxW sh S' x → Q (some (.int (iI (sayv env (tprt X pt))))) (hp g sh S') n) : GCall g mX7_worth 3 0 0 [gr g x, .int (iI pt), gr g 10] (hp g sh S) n Q := by
  have hW' := hW
  obtain ⟨hx, h1, h2, h3, q0, q2, q4, hsz, hpa, htp, hen, hst, hsk⟩ := hW'
  obtain ⟨z1, z3, ze0, ze1, ze2, zl⟩ := hP
  obtain ⟨A, B, C⟩ := X
  have z1' : S.1 x 1 = (A.length + B.length + C.length : Nat) := z1
  have R0 : TsR x S (setF S x 5 0) := ⟨fun a k q => setF_ne q, fun a q => rfl, rfl⟩
  have W0' : TxW sh (setF S x 5 0) x := TxW_s R0 hW (by rw [setF_at]; omega) hsk
  have K0 : TsK (setF S x 5 0) x [] := ⟨setF_at, Lay_nil⟩
  have Kend : ∀ (b : Int) (S' : SS), TsR x (setF S x 5 0) S' → TxW sh S' x → TsK S' x [sayv env (tprt (A, B, C) pt)] → G g mX7_worth 3 0 0 74 [(3, .int (iI b)), (0, gr g x), (1, .int (iI pt)), (2, gr g 10)] [] (hp g sh S') n 0 0 Q := by
    intro b S' r1 r2 r3
    refine S_aload_n (pc := 74) dX7_worth_74 rfl ?_
    refine S_callV (pc := 75) (ci := 7) (d2 := 1) (mc2 := 0) (ms2 := 0) (As := []) dX7_worth_75 kX7_pop lkX7_49 (by assumption) rfl rfl rfl (Nat.le_of_ble_eq_true rfl) ⟨by decide, by decide⟩ (by decide) ?_
    refine c_X7_pop r2 r3 (fun S2 p1 p2 p3 p4 => ?_)
    · show G _ _ _ _ _ _ _ _ _ _ _ _ _
      refine G_iret (pc := 78) dX7_worth_78 rfl (by decide) ?_
      exact hq S2 (TsR_tr (TsR_tr R0 r1) p1) p2
  have e1 : (setF S x 5 0).1 x 1 = S.1 x 1 := setF_ne (by omega)
  have e3 : (setF S x 5 0).1 x 3 = S.1 x 3 := setF_ne (by omega)
  have m0 : ∀ j : Nat, j < A.length → S.2.1 (x + 1) (0 + j : Int) = A.getD j 0 := fun j hj => by
    have := Lay_mid (A := []) (l := A) (C := B ++ C) (by rw [List.nil_append, ← List.append_assoc]; exact zl) j hj
    exact this
  have m1 : ∀ j : Nat, j < B.length → S.2.1 (x + 1) ((A.length : Nat) + j : Int) = B.getD j 0 := Lay_mid zl
  have m2 : ∀ j : Nat, j < C.length → S.2.1 (x + 1) ((A.length + B.length : Nat) + j : Int) = C.getD j 0 := fun j hj => by
    have := Lay_mid (A := A ++ B) (l := C) (C := []) (by rw [List.append_nil]; exact zl) j hj
    rw [List.length_append] at this
    exact this
  have l0 := l_X7_worth (S := setF S x 5 0) (pt := pt) (a := 0) (b := (A.length : Nat)) (xs := S.2.1 (x + 1)) (env := env) h10 hx10 he (by omega) hst (Kend _) A.length 0 A [] (setF S x 5 0) (by omega) (Int.le_refl _) rfl m0 (by rw [List.length_nil]; omega)
  have l1 := l_X7_worth (S := setF S x 5 0) (pt := pt) (a := (A.length : Nat)) (b := (A.length + B.length : Nat)) (xs := S.2.1 (x + 1)) (env := env) h10 hx10 he (by omega) hst (Kend _) B.length (A.length : Nat) B [] (setF S x 5 0) (by omega) (Int.le_refl _) rfl m1 (by rw [List.length_nil]; omega)
  have l2 := l_X7_worth (S := setF S x 5 0) (pt := pt) (a := (A.length + B.length : Nat)) (b := (A.length + B.length + C.length : Nat)) (xs := S.2.1 (x + 1)) (env := env) h10 hx10 he (by omega) hst (Kend _) C.length (A.length + B.length : Nat) C [] (setF S x 5 0) (by omega) (Int.le_refl _) rfl m2 (by rw [List.length_nil]; omega)
  refine GCall.of (by decide) (Nat.le_of_ble_eq_true rfl) (ls := [(0, _), (1, _), (2, _)]) rfl ?_
  have hc : pt = 0 ∨ pt = 1 ∨ pt = 2 := by omega
  rcases hc with e | e | e
  · subst e
    have hn := l0 hV TsR_rf W0' K0 henv rfl
    have ze : (setF S x 5 0).2.1 (x + 2) 0 = (A.length : Nat) := ze0
    refine S_aload_n (pc := 0) dX7_worth_0 rfl ?_
    refine G_iconst (pc := 1) dX7_worth_1 ?_
    refine S_putI (pc := 2) dX7_worth_2 fX7_32 (by assumption) rfl ⟨rfl, rfl⟩ ?_
    refine G_iload_n (pc := 5) dX7_worth_5 rfl ?_
    refine S_aload_n (pc := 6) dX7_worth_6 rfl ?_
    refine S_getI (pc := 7) dX7_worth_7 fX7_25 (by assumption) rfl ?_
    rw [e3, z3]
    refine G_callSN (pc := 10) (d2 := 1) (mc2 := 0) (ms2 := 0) (As := [_, _]) dX7_worth_10 kX9_isWithin lkX7_35 rfl rfl (Nat.le_of_ble_eq_true rfl) ⟨by decide, by decide⟩ (by decide) ?_
    refine c_X9_isWithin (by omega) (fun _ => ?_) (fun z => absurd (by omega) z)
    · show G _ _ _ _ _ _ _ _ _ _ _ _ _
      refine G_if_ne_t (pc := 13) 18 dX7_worth_13 rfl (by decide) (by decide) ?_
      refine S_aload_n (pc := 18) dX7_worth_18 rfl ?_
      refine S_getR (pc := 19) dX7_worth_19 fX7_15 (by assumption) rfl (by assumption) ?_
      refine G_iload_n (pc := 22) dX7_worth_22 rfl ?_
      refine S_iald (pc := 23) dX7_worth_23 (by assumption) (by omega) ?_
      rw [ze]
      refine S_aload_n (pc := 24) dX7_worth_24 rfl ?_
      refine S_getI (pc := 25) dX7_worth_25 fX7_21 (by assumption) rfl ?_
      rw [e1]
      refine G_callS (pc := 28) (d2 := 1) (mc2 := 0) (ms2 := 0) (As := [_, _]) dX7_worth_28 kJ9_min_7cf53 lkX7_39 rfl rfl (Nat.le_of_ble_eq_true rfl) ⟨by decide, by decide⟩ (by decide) ?_
      refine c_J9_min (by omega) ?_
      rw [if_pos (show ((A.length : Nat) : Int) ≤ S.1 x 1 by omega)]
      show G _ _ _ _ _ _ _ _ _ _ _ _ _
      refine G_istore_n (pc := 31) (ls' := [(3, _), (0, _), (1, _), (2, _)]) dX7_worth_31 (by decide) rfl ?_
      refine G_iload_n (pc := 32) dX7_worth_32 rfl ?_
      refine G_if_ne_f (pc := 33) 40 dX7_worth_33 rfl (by omega) (by decide) ?_
      refine G_iconst (pc := 36) dX7_worth_36 ?_
      refine G_goto (pc := 37) 48 dX7_worth_37 rfl ?_
      refine G_istore (pc := 48) (ls' := [(4, _), (3, _), (0, _), (1, _), (2, _)]) dX7_worth_48 (by decide) rfl ?_
      exact hn
  · subst e
    have hn := l1 hV TsR_rf W0' K0 henv rfl
    have ze : (setF S x 5 0).2.1 (x + 2) 1 = (A.length + B.length : Nat) := ze1
    have zf : (setF S x 5 0).2.1 (x + 2) (1 - 1) = (A.length : Nat) := ze0
    refine S_aload_n (pc := 0) dX7_worth_0 rfl ?_
    refine G_iconst (pc := 1) dX7_worth_1 ?_
    refine S_putI (pc := 2) dX7_worth_2 fX7_32 (by assumption) rfl ⟨rfl, rfl⟩ ?_
    refine G_iload_n (pc := 5) dX7_worth_5 rfl ?_
    refine S_aload_n (pc := 6) dX7_worth_6 rfl ?_
    refine S_getI (pc := 7) dX7_worth_7 fX7_25 (by assumption) rfl ?_
    rw [e3, z3]
    refine G_callSN (pc := 10) (d2 := 1) (mc2 := 0) (ms2 := 0) (As := [_, _]) dX7_worth_10 kX9_isWithin lkX7_35 rfl rfl (Nat.le_of_ble_eq_true rfl) ⟨by decide, by decide⟩ (by decide) ?_
    refine c_X9_isWithin (by omega) (fun _ => ?_) (fun z => absurd (by omega) z)
    · show G _ _ _ _ _ _ _ _ _ _ _ _ _
      refine G_if_ne_t (pc := 13) 18 dX7_worth_13 rfl (by decide) (by decide) ?_
      refine S_aload_n (pc := 18) dX7_worth_18 rfl ?_
      refine S_getR (pc := 19) dX7_worth_19 fX7_15 (by assumption) rfl (by assumption) ?_
      refine G_iload_n (pc := 22) dX7_worth_22 rfl ?_
      refine S_iald (pc := 23) dX7_worth_23 (by assumption) (by omega) ?_
      rw [ze]
      refine S_aload_n (pc := 24) dX7_worth_24 rfl ?_
      refine S_getI (pc := 25) dX7_worth_25 fX7_21 (by assumption) rfl ?_
      rw [e1]
      refine G_callS (pc := 28) (d2 := 1) (mc2 := 0) (ms2 := 0) (As := [_, _]) dX7_worth_28 kJ9_min_7cf53 lkX7_39 rfl rfl (Nat.le_of_ble_eq_true rfl) ⟨by decide, by decide⟩ (by decide) ?_
      refine c_J9_min (by omega) ?_
      rw [if_pos (show ((A.length + B.length : Nat) : Int) ≤ S.1 x 1 by omega)]
      show G _ _ _ _ _ _ _ _ _ _ _ _ _
      refine G_istore_n (pc := 31) (ls' := [(3, _), (0, _), (1, _), (2, _)]) dX7_worth_31 (by decide) rfl ?_
      refine G_iload_n (pc := 32) dX7_worth_32 rfl ?_
      refine G_if_ne_t (pc := 33) 40 dX7_worth_33 rfl (by omega) (by decide) ?_
      refine S_aload_n (pc := 40) dX7_worth_40 rfl ?_
      refine S_getR (pc := 41) dX7_worth_41 fX7_15 (by assumption) rfl (by assumption) ?_
      refine G_iload_n (pc := 44) dX7_worth_44 rfl ?_
      refine G_iconst (pc := 45) dX7_worth_45 ?_
      refine G_isub (pc := 46) dX7_worth_46 ?_
      refine S_iald (pc := 47) dX7_worth_47 (by assumption) (by omega) ?_
      rw [zf]
      refine G_istore (pc := 48) (ls' := [(4, _), (3, _), (0, _), (1, _), (2, _)]) dX7_worth_48 (by decide) rfl ?_
      exact hn
  · subst e
    have hn := l2 hV TsR_rf W0' K0 henv rfl
    have ze : (setF S x 5 0).2.1 (x + 2) 2 = (A.length + B.length + C.length : Nat) := ze2
    have zf : (setF S x 5 0).2.1 (x + 2) (2 - 1) = (A.length + B.length : Nat) := ze1
    refine S_aload_n (pc := 0) dX7_worth_0 rfl ?_
    refine G_iconst (pc := 1) dX7_worth_1 ?_
    refine S_putI (pc := 2) dX7_worth_2 fX7_32 (by assumption) rfl ⟨rfl, rfl⟩ ?_
    refine G_iload_n (pc := 5) dX7_worth_5 rfl ?_
    refine S_aload_n (pc := 6) dX7_worth_6 rfl ?_
    refine S_getI (pc := 7) dX7_worth_7 fX7_25 (by assumption) rfl ?_
    rw [e3, z3]
    refine G_callSN (pc := 10) (d2 := 1) (mc2 := 0) (ms2 := 0) (As := [_, _]) dX7_worth_10 kX9_isWithin lkX7_35 rfl rfl (Nat.le_of_ble_eq_true rfl) ⟨by decide, by decide⟩ (by decide) ?_
    refine c_X9_isWithin (by omega) (fun _ => ?_) (fun z => absurd (by omega) z)
    · show G _ _ _ _ _ _ _ _ _ _ _ _ _
      refine G_if_ne_t (pc := 13) 18 dX7_worth_13 rfl (by decide) (by decide) ?_
      refine S_aload_n (pc := 18) dX7_worth_18 rfl ?_
      refine S_getR (pc := 19) dX7_worth_19 fX7_15 (by assumption) rfl (by assumption) ?_
      refine G_iload_n (pc := 22) dX7_worth_22 rfl ?_
      refine S_iald (pc := 23) dX7_worth_23 (by assumption) (by omega) ?_
      rw [ze]
      refine S_aload_n (pc := 24) dX7_worth_24 rfl ?_
      refine S_getI (pc := 25) dX7_worth_25 fX7_21 (by assumption) rfl ?_
      rw [e1]
      refine G_callS (pc := 28) (d2 := 1) (mc2 := 0) (ms2 := 0) (As := [_, _]) dX7_worth_28 kJ9_min_7cf53 lkX7_39 rfl rfl (Nat.le_of_ble_eq_true rfl) ⟨by decide, by decide⟩ (by decide) ?_
      refine c_J9_min (by omega) ?_
      rw [if_pos (show ((A.length + B.length + C.length : Nat) : Int) ≤ S.1 x 1 by omega)]
      show G _ _ _ _ _ _ _ _ _ _ _ _ _
      refine G_istore_n (pc := 31) (ls' := [(3, _), (0, _), (1, _), (2, _)]) dX7_worth_31 (by decide) rfl ?_
      refine G_iload_n (pc := 32) dX7_worth_32 rfl ?_
      refine G_if_ne_t (pc := 33) 40 dX7_worth_33 rfl (by omega) (by decide) ?_
      refine S_aload_n (pc := 40) dX7_worth_40 rfl ?_
      refine S_getR (pc := 41) dX7_worth_41 fX7_15 (by assumption) rfl (by assumption) ?_
      refine G_iload_n (pc := 44) dX7_worth_44 rfl ?_
      refine G_iconst (pc := 45) dX7_worth_45 ?_
      refine G_isub (pc := 46) dX7_worth_46 ?_
      refine S_iald (pc := 47) dX7_worth_47 (by assumption) (by omega) ?_
      rw [zf]
      refine G_istore (pc := 48) (ls' := [(4, _), (3, _), (0, _), (1, _), (2, _)]) dX7_worth_48 (by decide) rfl ?_
      exact hn
