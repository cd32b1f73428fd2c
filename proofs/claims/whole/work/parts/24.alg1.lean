/-! Algebra: values, multiples, products -/
/-- the rows of the Algebra object at 13 -/
def Alg (p : Int) (sh : SH) (S : SS) : Prop := IsP p ∧ IsRests p sh S 12 ∧ sh 13 = some (.inl 0) ∧ S.2.2 13 0 = some 12 ∧ S.2.2 13 1 = some 14 ∧ S.2.2 13 2 = some 16 ∧ S.2.2 13 3 = some 18 ∧ S.2.2 13 4 = some 20 ∧ Row p sh S 14 64 ∧ Row p sh S 16 64 ∧ Row p sh S 18 64 ∧ Row p sh S 20 2
theorem IsRests_put {p : Int} {sh : SH} {S : SS} {r a N : Nat} {xs : Int → Int} (h : IsRests p sh S r) : IsRests p sh (rput S a xs N) r := ⟨h.1, by rw [rput_F (Or.inr (by decide))]; exact h.2⟩
set_option maxRecDepth 100000 in
set_option maxHeartbeats 4000000 in
theorem l_X0_evaluated {g : GC} {p : Int} {sh : SH} {S : SS} {n a N : Nat} {x : Int} {Q : Option Value → GA → Nat → Prop} (hA : Alg p sh S) (hr : Row p sh S a N) (hx : 0 ≤ x ∧ x < p) (hq : Q (some (.int (iI (ev (rv S a) x N % p)))) (hp g sh S) n) : ∀ (m : Nat) (i : Int), i + 1 = m → i < S.1 a 1 → G g mX0_evaluated 2 0 0 10 [(4, .int (iI i)), (3, .int (iI (tv (rv S a) x (plen (rv S a) N) (plen (rv S a) N - i - 1).toNat % p))), (0, gr g 13), (1, gr g a), (2, .int (iI x))] [] (hp g sh S) n 0 0 Q := by
  intro m
  have hA' := hA
  obtain ⟨hP, hrs, h13, p0, -⟩ := hA'
  have hpb := hP.bd
  have hr1 := hr.1.1
  have hrs1 := hrs.1
  have hb := plen_bd (rv S a) N
  have hN := hr.2.1
  have hL := hr.2.2.1
  induction m with
  | zero =>
    intro i hi hi2
    have e := ev_len (x := x) hr.2.2.2.1
    rw [← e] at hq
    refine G_iload (pc := 10) dX0_evaluated_10 rfl ?_
    refine G_if_lt_t (pc := 12) 42 dX0_evaluated_12 rfl (by omega) (by omega) ?_
    refine G_iload_n (pc := 42) dX0_evaluated_42 rfl ?_
    refine G_iret (pc := 43) dX0_evaluated_43 rfl (by decide) ?_
    rw [show i = -1 by omega]
    exact Q_i (by congr 2; omega) hq
  | succ m ih =>
    intro i hi hi2
    have hxi := hr.2.2.2.2 i
    have ht := em_bd (z := tv (rv S a) x (plen (rv S a) N) (plen (rv S a) N - i - 1).toNat) (p := p) (by omega)
    have hm := mul_bd ht hx hpb.2
    have key : (tv (rv S a) x (plen (rv S a) N) (plen (rv S a) N - i - 1).toNat % p * x + rv S a i) % p = tv (rv S a) x (plen (rv S a) N) (plen (rv S a) N - (i - 1) - 1).toNat % p := by
      rw [show (plen (rv S a) N - (i - 1) - 1).toNat = (plen (rv S a) N - i - 1).toNat + 1 by omega]
      show _ = (rv S a (plen (rv S a) N - ((plen (rv S a) N - i - 1).toNat + 1 : Nat)) + x * tv (rv S a) x (plen (rv S a) N) (plen (rv S a) N - i - 1).toNat) % p
      rw [show plen (rv S a) N - ((plen (rv S a) N - i - 1).toNat + 1 : Nat) = i by omega, Int.add_emod, em_mul_l, ← Int.add_emod, Int.mul_comm x, Int.add_comm]
    refine G_iload (pc := 10) dX0_evaluated_10 rfl ?_
    refine G_if_lt_f (pc := 12) 42 dX0_evaluated_12 rfl (by omega) (by omega) ?_
    refine S_aload_n (pc := 15) dX0_evaluated_15 rfl ?_
    refine S_getR (pc := 16) dX0_evaluated_16 fX0_41 (by assumption) rfl (by assumption) ?_
    refine G_iload_n (pc := 19) dX0_evaluated_19 rfl ?_
    refine G_i2l (pc := 20) dX0_evaluated_20 (by omega) ?_
    refine G_iload_n (pc := 21) dX0_evaluated_21 rfl ?_
    refine G_i2l (pc := 22) dX0_evaluated_22 (by omega) ?_
    refine G_lmul (pc := 23) dX0_evaluated_23 ?_
    refine S_aload_n (pc := 24) dX0_evaluated_24 rfl ?_
    refine G_iload (pc := 25) dX0_evaluated_25 rfl ?_
    refine S_callV (pc := 27) (ci := 4) (d2 := 1) (mc2 := 0) (ms2 := 0) (As := [_]) dX0_evaluated_27 kX4_get lkX0_49 (by assumption) rfl rfl rfl (Nat.le_of_ble_eq_true rfl) ⟨by decide, by decide⟩ (by decide) ?_
    refine c_X4_get (by assumption) (by omega) ?_
    show G _ _ _ _ _ _ _ _ _ _ _ _ _
    refine G_i2l (pc := 30) dX0_evaluated_30 (by omega) ?_
    refine G_ladd (pc := 31) dX0_evaluated_31 ?_
    refine S_callV (pc := 32) (ci := 3) (d2 := 1) (mc2 := 0) (ms2 := 0) (As := [_]) dX0_evaluated_32 kX3_rest lkX0_53 (by assumption) rfl rfl rfl (Nat.le_of_ble_eq_true rfl) ⟨by decide, by decide⟩ (by decide) ?_
    refine c_X3_rest hrs hP (by omega) ?_
    rw [key]
    show G _ _ _ _ _ _ _ _ _ _ _ _ _
    refine G_istore_n (pc := 35) (ls' := [(3, _), (4, _), (0, _), (1, _), (2, _)]) dX0_evaluated_35 (by decide) rfl ?_
    refine G_iinc (pc := 36) (ls' := [(4, _), (3, _), (0, _), (1, _), (2, _)]) dX0_evaluated_36 rfl (by decide) rfl ?_
    refine G_goto (pc := 39) 10 dX0_evaluated_39 rfl ?_
    exact ih (i - 1) (by omega) (by omega)
set_option maxRecDepth 100000 in
set_option maxHeartbeats 4000000 in
theorem c_X0_evaluated {g : GC} {p : Int} {sh : SH} {S : SS} {n a N : Nat} {x : Int} {Q : Option Value → GA → Nat → Prop} (hA : Alg p sh S) (hr : Row p sh S a N) (hx : 0 ≤ x ∧ x < p) (hq : Q (some (.int (iI (ev (rv S a) x N % p)))) (hp g sh S) n) : GCall g mX0_evaluated 2 0 0 [gr g 13, gr g a, .int (iI x)] (hp g sh S) n Q := by
  have hr0 := hr.1
  have hr1 := hr.1.1
  have hb := plen_bd (rv S a) N
  have hL := hr.2.2.1
  refine GCall.of (by decide) (Nat.le_of_ble_eq_true rfl) (ls := [(0, _), (1, _), (2, _)]) rfl ?_
  refine G_iconst (pc := 0) dX0_evaluated_0 ?_
  refine G_istore_n (pc := 1) (ls' := [(3, _), (0, _), (1, _), (2, _)]) dX0_evaluated_1 (by decide) rfl ?_
  refine S_aload_n (pc := 2) dX0_evaluated_2 rfl ?_
  refine S_callV (pc := 3) (ci := 4) (d2 := 1) (mc2 := 0) (ms2 := 0) (As := []) dX0_evaluated_3 kX4_length lkX0_45 (by assumption) rfl rfl rfl (Nat.le_of_ble_eq_true rfl) ⟨by decide, by decide⟩ (by decide) ?_
  refine c_X4_length (by assumption) ?_
  show G _ _ _ _ _ _ _ _ _ _ _ _ _
  refine G_iconst (pc := 6) dX0_evaluated_6 ?_
  refine G_isub (pc := 7) dX0_evaluated_7 ?_
  refine G_istore (pc := 8) (ls' := [(4, _), (3, _), (0, _), (1, _), (2, _)]) dX0_evaluated_8 (by decide) rfl ?_
  have := l_X0_evaluated hA hr hx hq (S.1 a 1).toNat (S.1 a 1 - 1) (by omega) (by omega)
  rw [hL, show (plen (rv S a) N - (plen (rv S a) N - 1) - 1).toNat = 0 by omega] at this
  rw [hL]
  exact this
