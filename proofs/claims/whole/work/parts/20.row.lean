/-! Row -/
set_option maxRecDepth 100000 in
set_option maxHeartbeats 4000000 in
theorem c_X4_length {g : GC} {sh : SH} {S : SS} {n a N : Nat} {Q : Option Value → GA → Nat → Prop} (hr : IsRow sh S a N) (hq : Q (some (.int (iI (S.1 a 1)))) (hp g sh S) n) : GCall g mX4_length 1 0 0 [gr g a] (hp g sh S) n Q := by
  obtain ⟨h1, h2, h3⟩ := hr
  refine GCall.of (by decide) (Nat.le_of_ble_eq_true rfl) (ls := [(0, _)]) rfl ?_
  refine S_aload_n (pc := 0) dX4_length_0 rfl ?_
  refine S_getI (pc := 1) dX4_length_1 fX4_19 (by assumption) rfl ?_
  refine G_iret (pc := 4) dX4_length_4 rfl (by decide) ?_
  exact hq
set_option maxRecDepth 100000 in
set_option maxHeartbeats 4000000 in
/-- get(i): 0 outside -/
theorem c_X4_get {g : GC} {p : Int} {sh : SH} {S : SS} {n a N : Nat} {i : Int} {Q : Option Value → GA → Nat → Prop} (hr : Row p sh S a N) (hi : -2147483648 ≤ i ∧ i ≤ 2147483647) (hq : Q (some (.int (iI (rv S a i)))) (hp g sh S) n) : GCall g mX4_get 1 0 0 [gr g a, .int (iI i)] (hp g sh S) n Q := by
  obtain ⟨⟨h1, h2, h3⟩, hN, hL, hS, hR⟩ := hr
  refine GCall.of (by decide) (Nat.le_of_ble_eq_true rfl) (ls := [(0, _), (1, _)]) rfl ?_
  refine G_iload_n (pc := 0) dX4_get_0 rfl ?_
  refine G_if_lt (pc := 1) 22 dX4_get_1 rfl (by omega) (fun c1 => ?_) (fun c1 => ?_)
  · skip
    refine G_iconst (pc := 22) dX4_get_22 ?_
    refine G_iret (pc := 23) dX4_get_23 rfl (by decide) ?_
    first | exact Q_i (by rw [hS i (by omega)]) hq | exact hq
  · skip
    refine G_iload_n (pc := 4) dX4_get_4 rfl ?_
    refine S_aload_n (pc := 5) dX4_get_5 rfl ?_
    refine S_getR (pc := 6) dX4_get_6 fX4_13 (by assumption) rfl (by assumption) ?_
    refine S_alen (pc := 9) dX4_get_9 (Or.inl (by assumption)) ?_
    refine G_icmp_ge (pc := 10) 22 dX4_get_10 rfl (by omega) (fun c10 => ?_) (fun c10 => ?_)
    · skip
      refine G_iconst (pc := 22) dX4_get_22 ?_
      refine G_iret (pc := 23) dX4_get_23 rfl (by decide) ?_
      first | exact Q_i (by rw [hS i (by omega)]) hq | exact hq
    · skip
      refine S_aload_n (pc := 13) dX4_get_13 rfl ?_
      refine S_getR (pc := 14) dX4_get_14 fX4_13 (by assumption) rfl (by assumption) ?_
      refine G_iload_n (pc := 17) dX4_get_17 rfl ?_
      refine S_iald (pc := 18) dX4_get_18 (by assumption) (by omega) ?_
      refine G_goto (pc := 19) 23 dX4_get_19 rfl ?_
      refine G_iret (pc := 23) dX4_get_23 rfl (by decide) ?_
      first | exact Q_i (by rw [hS i (by omega)]) hq | exact hq
set_option maxRecDepth 100000 in
set_option maxHeartbeats 4000000 in
theorem c_X4_lead {g : GC} {p : Int} {sh : SH} {S : SS} {n a N : Nat} {Q : Option Value → GA → Nat → Prop} (hr : Row p sh S a N) (hq : Q (some (.int (iI (rv S a (S.1 a 1 - 1))))) (hp g sh S) n) : GCall g mX4_lead 2 0 0 [gr g a] (hp g sh S) n Q := by
  have hr' := hr
  obtain ⟨⟨h1, h2, h3⟩, hN, hL, hS, hR⟩ := hr
  have hb := plen_bd (rv S a) N
  refine GCall.of (by decide) (Nat.le_of_ble_eq_true rfl) (ls := [(0, _)]) rfl ?_
  refine S_aload_n (pc := 0) dX4_lead_0 rfl ?_
  refine S_aload_n (pc := 1) dX4_lead_1 rfl ?_
  refine S_getI (pc := 2) dX4_lead_2 fX4_19 (by assumption) rfl ?_
  refine G_iconst (pc := 5) dX4_lead_5 ?_
  refine G_isub (pc := 6) dX4_lead_6 ?_
  refine S_callV (pc := 7) (ci := 4) (d2 := 1) (mc2 := 0) (ms2 := 0) (As := [_]) dX4_lead_7 kX4_get lkX4_23 (by assumption) rfl rfl rfl (Nat.le_of_ble_eq_true rfl) ⟨by decide, by decide⟩ (by decide) ?_
  refine c_X4_get hr' (by omega) ?_
  show G _ _ _ _ _ _ _ _ _ _ _ _ _
  refine G_iret (pc := 10) dX4_lead_10 rfl (by decide) ?_
  exact hq
set_option maxRecDepth 100000 in
set_option maxHeartbeats 4000000 in
/-- the loop of set: the length goes down to its place -/
theorem l_X4_set {g : GC} {sh : SH} {S : SS} {n a N : Nat} {v i : Value} {Q : Option Value → GA → Nat → Prop} (h1 : sh a = some (.inl 4)) (h2 : sh (a + 1) = some (.inr (1, N))) (h3 : S.2.2 a 0 = some (a + 1)) (hN : (N : Int) ≤ 64) (hR : ∀ j : Int, -2147483648 ≤ rv S a j ∧ rv S a j ≤ 2147483647)
    (hq : Q none (hp g sh (setF S a 1 (plen (rv S a) N))) n) : ∀ (m : Nat) (L : Int), L = m → L ≤ N → (∀ j : Int, L ≤ j → j < N → rv S a j = 0) →
    G g mX4_set 1 0 0 40 [(0, gr g a), (1, i), (2, v)] [] (hp g sh (setF S a 1 L)) n 0 0 Q := by
  intro m
  induction m with
  | zero =>
    intro L hL hLN hz
    have e : plen (rv S a) N = L := plen_eq (by omega) hLN hz (Or.inl (by omega))
    rw [e] at hq
    refine S_aload_n (pc := 40) dX4_set_40 rfl ?_
    refine S_getI (pc := 41) dX4_set_41 fX4_19 (by assumption) rfl ?_
    rw [setF_at]
    refine G_if_le_t (pc := 44) 74 dX4_set_44 rfl (by omega) (by omega) ?_
    refine G_vret (pc := 74) dX4_set_74 rfl (by decide) ?_
    exact hq
  | succ m ih =>
    intro L hL hLN hz
    have hR1 := hR (L - 1)
    refine S_aload_n (pc := 40) dX4_set_40 rfl ?_
    refine S_getI (pc := 41) dX4_set_41 fX4_19 (by assumption) rfl ?_
    rw [setF_at]
    refine G_if_le_f (pc := 44) 74 dX4_set_44 rfl (by omega) (by omega) ?_
    refine S_aload_n (pc := 47) dX4_set_47 rfl ?_
    refine S_getR (pc := 48) dX4_set_48 fX4_13 (by assumption) rfl (by assumption) ?_
    refine S_aload_n (pc := 51) dX4_set_51 rfl ?_
    refine S_getI (pc := 52) dX4_set_52 fX4_19 (by assumption) rfl ?_
    rw [setF_at]
    refine G_iconst (pc := 55) dX4_set_55 ?_
    refine G_isub (pc := 56) dX4_set_56 ?_
    refine S_iald (pc := 57) dX4_set_57 (by assumption) (by omega) ?_
    refine G_if_ne (pc := 58) 74 dX4_set_58 rfl hR1 (fun c58 => ?_) (fun c58 => ?_)
    · skip
      rw [plen_eq (by omega) hLN hz (Or.inr c58)] at hq
      refine G_vret dX4_set_74 rfl (by decide) ?_
      exact hq
    · skip
      refine S_aload_n (pc := 61) dX4_set_61 rfl ?_
      refine G_dup (pc := 62) dX4_set_62 rfl ?_
      refine S_getI (pc := 63) dX4_set_63 fX4_19 (by assumption) rfl ?_
      rw [setF_at]
      refine G_iconst (pc := 66) dX4_set_66 ?_
      refine G_isub (pc := 67) dX4_set_67 ?_
      refine S_putI (pc := 68) dX4_set_68 fX4_19 (by assumption) rfl ⟨rfl, rfl⟩ ?_
      refine G_goto (pc := 71) 40 dX4_set_71 rfl ?_
      rw [setF_setF]
      refine ih (L - 1) (by omega) (by omega) (fun j hj1 hj2 => ?_)
      by_cases hj : j = L - 1
      · rw [hj]; exact Decidable.of_not_not c58
      · exact hz j (by omega) hj2
set_option maxRecDepth 100000 in
set_option maxHeartbeats 4000000 in
/-- set(i, number) inside the room -/
theorem c_X4_set {g : GC} {p : Int} {sh : SH} {S : SS} {n a N : Nat} {i v : Int} {Q : Option Value → GA → Nat → Prop} (hr : Row p sh S a N) (hp7 : p ≤ 7681) (hi : 0 ≤ i ∧ i < N) (hv : 0 ≤ v ∧ v < p) (hq : Q none (hp g sh (rput S a (iup (rv S a) i v) N)) n) : GCall g mX4_set 1 0 0 [gr g a, .int (iI i), .int (iI v)] (hp g sh S) n Q := by
  obtain ⟨⟨h1, h2, h3⟩, hN, hL, hS, hR⟩ := hr
  have hb := plen_bd (rv S a) N
  have e0 : setA S (a + 1) i v = putA S (a + 1) (iup (rv S a) i v) := rfl
  have er : rv (setA S (a + 1) i v) a = iup (rv S a) i v := by rw [e0]; exact putA_at
  have hR' : ∀ j : Int, -2147483648 ≤ rv (setA S (a + 1) i v) a j ∧ rv (setA S (a + 1) i v) a j ≤ 2147483647 := fun j => by
    have := (Red_iup (i := i) hR hv) j
    rw [er]; omega
  have lp : ∀ L : Int, 0 ≤ L → L ≤ N → (∀ j : Int, L ≤ j → j < N → iup (rv S a) i v j = 0) → G g mX4_set 1 0 0 40 [(0, gr g a), (1, .int (iI i)), (2, .int (iI v))] [] (hp g sh (setF (setA S (a + 1) i v) a 1 L)) n 0 0 Q := by
    intro L h0 hLN hz
    refine l_X4_set (S := setA S (a + 1) i v) h1 h2 h3 hN hR' ?_ L.toNat L (by omega) hLN (by rw [er]; exact hz)
    rw [er]; exact hq
  have hz0 : ∀ j : Int, S.1 a 1 ≤ j → j < N → j ≠ i → iup (rv S a) i v j = 0 := fun j hj1 hj2 hj => by
    rw [iup_ne hj]
    exact plen_zero (by omega) hj2
  have lp0 : v = 0 ∨ i < S.1 a 1 → G g mX4_set 1 0 0 40 [(0, gr g a), (1, .int (iI i)), (2, .int (iI v))] [] (hp g sh (setA S (a + 1) i v)) n 0 0 Q := by
    intro hc
    have := lp (S.1 a 1) (by omega) (by omega) (fun j hj1 hj2 => by
      by_cases hj : j = i
      · rw [hj, iup_at]; omega
      · exact hz0 j hj1 hj2 hj)
    rwa [show setF (setA S (a + 1) i v) a 1 (S.1 a 1) = setA S (a + 1) i v from setF_same] at this
  have e1 : (setA S (a + 1) i v).1 a 1 = S.1 a 1 := rfl
  refine GCall.of (by decide) (Nat.le_of_ble_eq_true rfl) (ls := [(0, _), (1, _), (2, _)]) rfl ?_
  refine G_iload_n (pc := 0) dX4_set_0 rfl ?_
  refine G_if_lt_f (pc := 1) 13 dX4_set_1 rfl (by omega) (by omega) ?_
  refine G_iload_n (pc := 4) dX4_set_4 rfl ?_
  refine S_aload_n (pc := 5) dX4_set_5 rfl ?_
  refine S_getR (pc := 6) dX4_set_6 fX4_13 (by assumption) rfl (by assumption) ?_
  refine S_alen (pc := 9) dX4_set_9 (Or.inl (by assumption)) ?_
  refine G_icmp_lt_t (pc := 10) 14 dX4_set_10 rfl (by omega) (by omega) ?_
  refine S_aload_n (pc := 14) dX4_set_14 rfl ?_
  refine S_getR (pc := 15) dX4_set_15 fX4_13 (by assumption) rfl (by assumption) ?_
  refine G_iload_n (pc := 18) dX4_set_18 rfl ?_
  refine G_iload_n (pc := 19) dX4_set_19 rfl ?_
  refine S_iast (pc := 20) dX4_set_20 (by assumption) (by omega) ?_
  refine G_iload_n (pc := 21) dX4_set_21 rfl ?_
  refine G_if_eq (pc := 22) 40 dX4_set_22 rfl (by omega) (fun c22 => ?_) (fun c22 => ?_)
  · skip
    first | exact lp0 (Or.inl (by omega)) | exact lp0 (Or.inr (by omega)) | exact lp (i + 1) (by omega) (by omega) (fun j hj1 hj2 => hz0 j (by omega) hj2 (by omega))
  · skip
    refine G_iload_n (pc := 25) dX4_set_25 rfl ?_
    refine S_aload_n (pc := 26) dX4_set_26 rfl ?_
    refine S_getI (pc := 27) dX4_set_27 fX4_19 (by assumption) rfl ?_
    refine G_icmp_lt (pc := 30) 40 dX4_set_30 rfl (by omega) (fun c30 => ?_) (fun c30 => ?_)
    · skip
      first | exact lp0 (Or.inl (by omega)) | exact lp0 (Or.inr (by omega)) | exact lp (i + 1) (by omega) (by omega) (fun j hj1 hj2 => hz0 j (by omega) hj2 (by omega))
    · skip
      refine S_aload_n (pc := 33) dX4_set_33 rfl ?_
      refine G_iload_n (pc := 34) dX4_set_34 rfl ?_
      refine G_iconst (pc := 35) dX4_set_35 ?_
      refine G_iadd (pc := 36) dX4_set_36 ?_
      refine S_putI (pc := 37) dX4_set_37 fX4_19 (by assumption) rfl ⟨rfl, rfl⟩ ?_
      first | exact lp0 (Or.inl (by omega)) | exact lp0 (Or.inr (by omega)) | exact lp (i + 1) (by omega) (by omega) (fun j hj1 hj2 => hz0 j (by omega) hj2 (by omega))
