/-! the Model: isWay, taken -/
def MvW (sh : SH) (S : SS) (w : Int) : Prop := sh 96 = some (.inl 10) ∧ S.2.2 96 4 = some 98 ∧ S.2.2 96 5 = some 99 ∧ sh 98 = some (.inr (1, 8)) ∧ sh 99 = some (.inr (1, 8)) ∧ S.1 96 3 = w ∧ (0 ≤ w ∧ w ≤ 8) ∧ (∀ i : Int, 0 ≤ S.2.1 98 i ∧ S.2.1 98 i ≤ 5) ∧ (∀ i : Int, 0 ≤ S.2.1 99 i ∧ S.2.1 99 i ≤ 32)
set_option maxRecDepth 100000 in
set_option maxHeartbeats 4000000 in
theorem c_X10_isWay {g : GC} {w i : Int} {sh : SH} {S : SS} {n : Nat} {Q : Option Value → GA → Nat → Prop} (hV : MvW sh S w) (hi : -2147483648 ≤ i ∧ i ≤ 2147483647) (h1 : 0 ≤ i ∧ i < w → Q (some (.int (iI 1))) (hp g sh S) n) (h0 : ¬ (0 ≤ i ∧ i < w) → Q (some (.int (iI 0))) (hp g sh S) n) : GCall g mX10_isWay 2 0 0 [gr g 96, .int (iI i)] (hp g sh S) n Q := by
  obtain ⟨h96, q4, q5, h98, h99, hw, hwb, r98, r99⟩ := hV
  refine GCall.of (by decide) (Nat.le_of_ble_eq_true rfl) (ls := [(0, _), (1, _)]) rfl ?_
  refine G_iload_n (pc := 0) dX10_isWay_0 rfl ?_
  refine G_iconst (pc := 1) dX10_isWay_1 ?_
  refine S_aload_n (pc := 2) dX10_isWay_2 rfl ?_
  refine S_getI (pc := 3) dX10_isWay_3 fX10_112 (by assumption) rfl ?_
  rw [hw]
  refine G_iconst (pc := 6) dX10_isWay_6 ?_
  refine G_isub (pc := 7) dX10_isWay_7 ?_
  refine G_callS (pc := 8) (d2 := 1) (mc2 := 0) (ms2 := 0) (As := [_, _, _]) dX10_isWay_8 kX10_in lkX10_86 rfl rfl (Nat.le_of_ble_eq_true rfl) ⟨by decide, by decide⟩ (by decide) ?_
  refine c_X10_in (by omega) (fun w8 => ?_) (fun w8 => ?_)
  · show G _ _ _ _ _ _ _ _ _ _ _ _ _
    refine G_zret (pc := 11) dX10_isWay_11 rfl nar_z1 (by decide) ?_
    first | exact h1 (by omega) | exact h0 (by omega)
  · show G _ _ _ _ _ _ _ _ _ _ _ _ _
    refine G_zret (pc := 11) dX10_isWay_11 rfl nar_z0 (by decide) ?_
    first | exact h1 (by omega) | exact h0 (by omega)
def utk : Nat → Int → Int → Prop
  | 0, _, _ => False
  | f + 1, a, k => 0 ≤ a ∧ (a = k ∨ utk f (ovr a) k)
theorem ovr_bd {a : Int} (h : 0 ≤ a ∧ a ≤ 5) : -1 ≤ ovr a ∧ ovr a < a := by
  unfold ovr
  split <;> (try split) <;> (try split) <;> (try split) <;> omega
set_option maxRecDepth 100000 in
set_option maxHeartbeats 4000000 in
theorem l_X10_taken {g : GC} {w wy k : Int} {sh : SH} {S : SS} {n : Nat} {Q : Option Value → GA → Nat → Prop} (hV : MvW sh S w) (hwy : 0 ≤ wy ∧ wy < w) (hk : 0 ≤ k ∧ k ≤ 5) : ∀ (f : Nat) (a : Int), a < f → (-1 ≤ a ∧ a ≤ 5) → (utk f a k → Q (some (.int (iI (S.2.1 99 wy)))) (hp g sh S) n) → (¬ utk f a k → Q (some (.int (iI (-13)))) (hp g sh S) n) →
    G g mX10_taken 3 0 0 30 [(3, .int (iI a)), (0, gr g 96), (1, .int (iI wy)), (2, .int (iI k))] [] (hp g sh S) n 0 0 Q := by
  intro f
  obtain ⟨h96, q4, q5, h98, h99, hw, hwb, r98, r99⟩ := hV
  induction f with
  | zero =>
    intro a ha hb hy hn
    refine G_iload_n (pc := 30) dX10_taken_30 rfl ?_
    refine G_if_lt_t (pc := 31) 47 dX10_taken_31 rfl (by omega) (by omega) ?_
    refine G_iload_n (pc := 47) dX10_taken_47 rfl ?_
    refine G_iload_n (pc := 48) dX10_taken_48 rfl ?_
    refine G_icmp_ne_t (pc := 49) 61 dX10_taken_49 rfl (by omega) (by omega) ?_
    refine G_bipush (pc := 61) dX10_taken_61 rfl ?_
    refine G_iret (pc := 63) dX10_taken_63 rfl (by decide) ?_
    exact hn (fun h => h)
  | succ f ih =>
    intro a ha hb hy hn
    by_cases hneg : a < 0
    · skip
      refine G_iload_n (pc := 30) dX10_taken_30 rfl ?_
      refine G_if_lt_t (pc := 31) 47 dX10_taken_31 rfl (by omega) (by omega) ?_
      refine G_iload_n (pc := 47) dX10_taken_47 rfl ?_
      refine G_iload_n (pc := 48) dX10_taken_48 rfl ?_
      refine G_icmp_ne_t (pc := 49) 61 dX10_taken_49 rfl (by omega) (by omega) ?_
      refine G_bipush (pc := 61) dX10_taken_61 rfl ?_
      refine G_iret (pc := 63) dX10_taken_63 rfl (by decide) ?_
      exact hn (fun h => by have := h.1; omega)
    · by_cases he : a = k
      · skip
        refine G_iload_n (pc := 30) dX10_taken_30 rfl ?_
        refine G_if_lt_f (pc := 31) 47 dX10_taken_31 rfl (by omega) (by omega) ?_
        refine G_iload_n (pc := 34) dX10_taken_34 rfl ?_
        refine G_iload_n (pc := 35) dX10_taken_35 rfl ?_
        refine G_icmp_eq_t (pc := 36) 47 dX10_taken_36 rfl (by omega) (by omega) ?_
        refine G_iload_n (pc := 47) dX10_taken_47 rfl ?_
        refine G_iload_n (pc := 48) dX10_taken_48 rfl ?_
        refine G_icmp_ne_f (pc := 49) 61 dX10_taken_49 rfl (by omega) (by omega) ?_
        refine S_aload_n (pc := 52) dX10_taken_52 rfl ?_
        refine S_getR (pc := 53) dX10_taken_53 fX10_20 (by assumption) rfl (by assumption) ?_
        refine G_iload_n (pc := 56) dX10_taken_56 rfl ?_
        refine S_iald (pc := 57) dX10_taken_57 (by assumption) (by omega) ?_
        refine G_goto (pc := 58) 63 dX10_taken_58 rfl ?_
        refine G_iret (pc := 63) dX10_taken_63 rfl (by decide) ?_
        exact hy ⟨by omega, Or.inl he⟩
      · have hov := ovr_bd (a := a) (by omega)
        refine G_iload_n (pc := 30) dX10_taken_30 rfl ?_
        refine G_if_lt_f (pc := 31) 47 dX10_taken_31 rfl (by omega) (by omega) ?_
        refine G_iload_n (pc := 34) dX10_taken_34 rfl ?_
        refine G_iload_n (pc := 35) dX10_taken_35 rfl ?_
        refine G_icmp_eq_f (pc := 36) 47 dX10_taken_36 rfl (by omega) (by omega) ?_
        refine G_iload_n (pc := 39) dX10_taken_39 rfl ?_
        refine G_callS (pc := 40) (d2 := 1) (mc2 := 0) (ms2 := 0) (As := [_]) dX10_taken_40 kX10_over lkX10_305 rfl rfl (Nat.le_of_ble_eq_true rfl) ⟨by decide, by decide⟩ (by decide) ?_
        refine c_X10_over (by omega) ?_
        show G _ _ _ _ _ _ _ _ _ _ _ _ _
        refine G_istore_n (pc := 43) (ls' := [(3, _), (0, _), (1, _), (2, _)]) dX10_taken_43 (by decide) rfl ?_
        refine G_goto (pc := 44) 30 dX10_taken_44 rfl ?_
        exact ih (ovr a) (by omega) (by omega) (fun h => hy ⟨by omega, Or.inr h⟩) (fun h => hn (fun z => z.2.elim he h))
set_option maxRecDepth 100000 in
set_option maxHeartbeats 4000000 in
theorem c_X10_taken {g : GC} {w wy k : Int} {sh : SH} {S : SS} {n : Nat} {Q : Option Value → GA → Nat → Prop} (hV : MvW sh S w) (hr : (-2147483648 ≤ wy ∧ wy ≤ 2147483647) ∧ (-2147483648 ≤ k ∧ k ≤ 2147483647)) (h0 : ¬ (0 ≤ k ∧ k ≤ 5) → Q (some (.int (iI (-2)))) (hp g sh S) n) (h1 : (0 ≤ k ∧ k ≤ 5) → ¬ (0 ≤ wy ∧ wy < w) → Q (some (.int (iI (-11)))) (hp g sh S) n)
    (h2 : (0 ≤ k ∧ k ≤ 5) → (0 ≤ wy ∧ wy < w) → utk 6 (S.2.1 98 wy) k → Q (some (.int (iI (S.2.1 99 wy)))) (hp g sh S) n) (h3 : (0 ≤ k ∧ k ≤ 5) → (0 ≤ wy ∧ wy < w) → ¬ utk 6 (S.2.1 98 wy) k → Q (some (.int (iI (-13)))) (hp g sh S) n) :
    GCall g mX10_taken 3 0 0 [gr g 96, .int (iI wy), .int (iI k)] (hp g sh S) n Q := by
  have hV' := hV
  obtain ⟨h96, q4, q5, h98, h99, hw, hwb, r98, r99⟩ := hV'
  obtain ⟨hr1, hr2⟩ := hr
  have hkb := r98 wy
  refine GCall.of (by decide) (Nat.le_of_ble_eq_true rfl) (ls := [(0, _), (1, _), (2, _)]) rfl ?_
  refine G_iload_n (pc := 0) dX10_taken_0 rfl ?_
  refine G_iconst (pc := 1) dX10_taken_1 ?_
  refine G_iconst (pc := 2) dX10_taken_2 ?_
  refine G_callS (pc := 3) (d2 := 1) (mc2 := 0) (ms2 := 0) (As := [_, _, _]) dX10_taken_3 kX10_in lkX10_86 rfl rfl (Nat.le_of_ble_eq_true rfl) ⟨by decide, by decide⟩ (by decide) ?_
  refine c_X10_in (by omega) (fun w3 => ?_) (fun w3 => ?_)
  · show G _ _ _ _ _ _ _ _ _ _ _ _ _
    refine G_if_ne_t (pc := 6) 12 dX10_taken_6 rfl (by decide) (by decide) ?_
    refine S_aload_n (pc := 12) dX10_taken_12 rfl ?_
    refine G_iload_n (pc := 13) dX10_taken_13 rfl ?_
    refine S_callV (pc := 14) (ci := 10) (d2 := 2) (mc2 := 0) (ms2 := 0) (As := [_]) dX10_taken_14 kX10_isWay lkX10_136 (by assumption) rfl rfl rfl (Nat.le_of_ble_eq_true rfl) ⟨by decide, by decide⟩ (by decide) ?_
    refine c_X10_isWay hV (by omega) (fun w14 => ?_) (fun w14 => ?_)
    · show G _ _ _ _ _ _ _ _ _ _ _ _ _
      refine G_if_ne_t (pc := 17) 23 dX10_taken_17 rfl (by decide) (by decide) ?_
      refine S_aload_n (pc := 23) dX10_taken_23 rfl ?_
      refine S_getR (pc := 24) dX10_taken_24 fX10_17 (by assumption) rfl (by assumption) ?_
      refine G_iload_n (pc := 27) dX10_taken_27 rfl ?_
      refine S_iald (pc := 28) dX10_taken_28 (by assumption) (by omega) ?_
      refine G_istore_n (pc := 29) (ls' := [(3, _), (0, _), (1, _), (2, _)]) dX10_taken_29 (by decide) rfl ?_
      exact l_X10_taken hV (by omega) (by omega) 6 (S.2.1 98 wy) (by omega) (by omega) (h2 (by omega) (by omega)) (h3 (by omega) (by omega))
    · show G _ _ _ _ _ _ _ _ _ _ _ _ _
      refine G_if_ne_f (pc := 17) 23 dX10_taken_17 rfl (by decide) (by decide) ?_
      refine G_bipush (pc := 20) dX10_taken_20 rfl ?_
      refine G_iret (pc := 22) dX10_taken_22 rfl (by decide) ?_
      exact h1 (by omega) (by omega)
  · show G _ _ _ _ _ _ _ _ _ _ _ _ _
    refine G_if_ne_f (pc := 6) 12 dX10_taken_6 rfl (by decide) (by decide) ?_
    refine G_bipush (pc := 9) dX10_taken_9 rfl ?_
    refine G_iret (pc := 11) dX10_taken_11 rfl (by decide) ?_
    exact h0 (by omega)
