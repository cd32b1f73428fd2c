/-! Rests -/
def IsRests (p : Int) (sh : SH) (S : SS) (r : Nat) : Prop := sh r = some (.inl 3) ∧ S.1 r 0 = p
set_option maxRecDepth 100000 in
set_option maxHeartbeats 4000000 in
theorem c_X3_prime {g : GC} {p : Int} {sh : SH} {S : SS} {n r : Nat} {Q : Option Value → GA → Nat → Prop} (hr : IsRests p sh S r) (hq : Q (some (.int (iI p))) (hp g sh S) n) : GCall g mX3_prime 1 0 0 [gr g r] (hp g sh S) n Q := by
  obtain ⟨h1, h2⟩ := hr
  refine GCall.of (by decide) (Nat.le_of_ble_eq_true rfl) (ls := [(0, _)]) rfl ?_
  refine S_aload_n (pc := 0) dX3_prime_0 rfl ?_
  refine S_getI (pc := 1) dX3_prime_1 fX3_13 (by assumption) rfl ?_
  refine G_iret (pc := 4) dX3_prime_4 rfl (by decide) ?_
  exact Q_i h2 hq
set_option maxRecDepth 100000 in
set_option maxHeartbeats 4000000 in
theorem c_X3_rest {g : GC} {p : Int} {sh : SH} {S : SS} {n r : Nat} {z : Int} {Q : Option Value → GA → Nat → Prop} (hr : IsRests p sh S r) (hP : IsP p) (hz : -9223372036854775808 ≤ z ∧ z ≤ 9223372036854775807) (hq : Q (some (.int (iI (z % p)))) (hp g sh S) n) : GCall g mX3_rest 1 0 0 [gr g r, .long (iL z)] (hp g sh S) n Q := by
  obtain ⟨h1, h2⟩ := hr
  have hb := hP.bd
  have ht := tm_bd (z := z) (p := p) (by omega)
  have he := tm_em (z := z) (p := p) (by omega)
  refine GCall.of (by decide) (Nat.le_of_ble_eq_true rfl) (ls := [(0, _), (1, _)]) rfl ?_
  refine G_lload_n (pc := 0) dX3_rest_0 rfl ?_
  refine S_aload_n (pc := 1) dX3_rest_1 rfl ?_
  refine S_getI (pc := 2) dX3_rest_2 fX3_13 (by assumption) rfl ?_
  rw [h2]
  refine G_i2l (pc := 5) dX3_rest_5 (by omega) ?_
  refine G_lrem (pc := 6) dX3_rest_6 (by omega) ?_
  refine G_l2i (pc := 7) dX3_rest_7 ?_
  refine G_istore_n (pc := 8) (ls' := [(3, _), (0, _), (1, _)]) dX3_rest_8 (by decide) rfl ?_
  refine G_iload_n (pc := 9) dX3_rest_9 rfl ?_
  refine G_if_ge (pc := 10) 22 dX3_rest_10 rfl (by omega) (fun c10 => ?_) (fun c10 => ?_)
  · skip
    refine G_iload_n (pc := 22) dX3_rest_22 rfl ?_
    refine G_iret (pc := 23) dX3_rest_23 rfl (by decide) ?_
    refine Q_i ?_ hq
    rw [he]
    first | rw [if_neg (by omega)] | rw [if_pos (by omega)]
  · skip
    refine G_iload_n (pc := 13) dX3_rest_13 rfl ?_
    refine S_aload_n (pc := 14) dX3_rest_14 rfl ?_
    refine S_getI (pc := 15) dX3_rest_15 fX3_13 (by assumption) rfl ?_
    rw [h2]
    refine G_iadd (pc := 18) dX3_rest_18 ?_
    refine G_goto (pc := 19) 23 dX3_rest_19 rfl ?_
    refine G_iret (pc := 23) dX3_rest_23 rfl (by decide) ?_
    refine Q_i ?_ hq
    rw [he]
    first | rw [if_neg (by omega)] | rw [if_pos (by omega)]
set_option maxRecDepth 100000 in
set_option maxHeartbeats 4000000 in
theorem c_X3_product {g : GC} {p : Int} {sh : SH} {S : SS} {n r : Nat} {a b : Int} {Q : Option Value → GA → Nat → Prop} (hr : IsRests p sh S r) (hP : IsP p) (ha : 0 ≤ a ∧ a < p) (hb : 0 ≤ b ∧ b < p) (hq : Q (some (.int (iI (a * b % p)))) (hp g sh S) n) : GCall g mX3_product 1 0 0 [gr g r, .int (iI a), .int (iI b)] (hp g sh S) n Q := by
  obtain ⟨h1, h2⟩ := hr
  have hpb := hP.bd
  have hm := mul_bd ha hb hpb.2
  refine GCall.of (by decide) (Nat.le_of_ble_eq_true rfl) (ls := [(0, _), (1, _), (2, _)]) rfl ?_
  refine G_iload_n (pc := 0) dX3_product_0 rfl ?_
  refine G_i2l (pc := 1) dX3_product_1 (by omega) ?_
  refine G_iload_n (pc := 2) dX3_product_2 rfl ?_
  refine G_i2l (pc := 3) dX3_product_3 (by omega) ?_
  refine G_lmul (pc := 4) dX3_product_4 ?_
  refine S_aload_n (pc := 5) dX3_product_5 rfl ?_
  refine S_getI (pc := 6) dX3_product_6 fX3_13 (by assumption) rfl ?_
  rw [h2]
  refine G_i2l (pc := 9) dX3_product_9 (by omega) ?_
  refine G_lrem (pc := 10) dX3_product_10 (by omega) ?_
  refine G_l2i (pc := 11) dX3_product_11 ?_
  refine G_iret (pc := 12) dX3_product_12 rfl (by decide) ?_
  exact Q_i (Int.tmod_eq_emod_of_nonneg hm.1) hq
set_option maxRecDepth 100000 in
set_option maxHeartbeats 4000000 in
theorem l_X3_raised {g : GC} {p : Int} {sh : SH} {S : SS} {n k : Nat} {x0 : Int} {Q : Option Value → GA → Nat → Prop} (hr : IsRests p sh S k) (hP : IsP p) (hq : Q (some (.int (iI x0))) (hp g sh S) n) : ∀ (m : Nat) (l r s : Int), l ≤ m → 0 ≤ l ∧ l ≤ 2147483647 → 0 ≤ r ∧ r < p → 0 ≤ s ∧ s < p → r * s ^ l.toNat % p = x0 →
    G g mX3_raised 2 0 0 8 [(5, .int (iI l)), (4, .int (iI s)), (3, .int (iI r)), (0, gr g k)] [] (hp g sh S) n 0 0 Q := by
  intro m
  have hpb := hP.bd
  have hr1 := hr.1
  induction m with
  | zero =>
    intro l r s hlm hl hrb hsb hi
    have e : l = 0 := by omega
    subst e
    rw [show (0 : Int).toNat = 0 from rfl, Int.pow_zero, Int.mul_one, em_id hrb] at hi
    refine G_iload (pc := 8) dX3_raised_8 rfl ?_
    refine G_if_le_t (pc := 10) 48 dX3_raised_10 rfl (by omega) (by omega) ?_
    refine G_iload_n (pc := 48) dX3_raised_48 rfl ?_
    refine G_iret (pc := 49) dX3_raised_49 rfl (by decide) ?_
    exact Q_i hi hq
  | succ m ih =>
    intro l r s hlm hl hrb hsb hi
    have em := em_bd (z := r * s) (p := p) (by omega)
    have em2 := em_bd (z := s * s) (p := p) (by omega)
    by_cases h0 : l = 0
    · subst h0
      exact ih 0 r s (by omega) hl hrb hsb hi
    refine G_iload (pc := 8) dX3_raised_8 rfl ?_
    refine G_if_le_f (pc := 10) 48 dX3_raised_10 rfl (by omega) (by omega) ?_
    refine G_iload (pc := 13) dX3_raised_13 rfl ?_
    refine G_iconst (pc := 15) dX3_raised_15 ?_
    refine G_iand (pc := 16) dX3_raised_16 (iI_and1 hl) ?_
    refine G_iconst (pc := 17) dX3_raised_17 ?_
    refine G_icmp_ne (pc := 18) 29 dX3_raised_18 rfl (by omega) (fun c18 => ?_) (fun c18 => ?_)
    · skip
      refine S_aload_n (pc := 29) dX3_raised_29 rfl ?_
      refine G_iload (pc := 30) dX3_raised_30 rfl ?_
      refine G_iload (pc := 32) dX3_raised_32 rfl ?_
      refine S_callV (pc := 34) (ci := 3) (d2 := 1) (mc2 := 0) (ms2 := 0) (As := [_, _]) dX3_raised_34 kX3_product lkX3_23 (by assumption) rfl rfl rfl (Nat.le_of_ble_eq_true rfl) ⟨by decide, by decide⟩ (by decide) ?_
      refine c_X3_product hr hP hsb hsb ?_
      show G _ _ _ _ _ _ _ _ _ _ _ _ _
      refine G_istore (pc := 37) (ls' := [(4, _), (5, _), (3, _), (0, _)]) dX3_raised_37 (by decide) rfl ?_
      refine G_iload (pc := 39) dX3_raised_39 rfl ?_
      refine G_iconst (pc := 41) dX3_raised_41 ?_
      refine G_ishr (pc := 42) dX3_raised_42 (iI_shr1 hl) ?_
      refine G_istore (pc := 43) (ls' := [(5, _), (4, _), (3, _), (0, _)]) dX3_raised_43 (by decide) rfl ?_
      refine G_goto (pc := 45) 8 dX3_raised_45 rfl ?_
      first | exact ih (l / 2) _ _ (by omega) (by omega) em em2 (pw_odd hl.1 (by omega) hi) | exact ih (l / 2) _ _ (by omega) (by omega) hrb em2 (pw_even hl.1 (by omega) hi)
    · skip
      refine S_aload_n (pc := 21) dX3_raised_21 rfl ?_
      refine G_iload_n (pc := 22) dX3_raised_22 rfl ?_
      refine G_iload (pc := 23) dX3_raised_23 rfl ?_
      refine S_callV (pc := 25) (ci := 3) (d2 := 1) (mc2 := 0) (ms2 := 0) (As := [_, _]) dX3_raised_25 kX3_product lkX3_23 (by assumption) rfl rfl rfl (Nat.le_of_ble_eq_true rfl) ⟨by decide, by decide⟩ (by decide) ?_
      refine c_X3_product hr hP hrb hsb ?_
      show G _ _ _ _ _ _ _ _ _ _ _ _ _
      refine G_istore_n (pc := 28) (ls' := [(3, _), (5, _), (4, _), (0, _)]) dX3_raised_28 (by decide) rfl ?_
      refine S_aload_n (pc := 29) dX3_raised_29 rfl ?_
      refine G_iload (pc := 30) dX3_raised_30 rfl ?_
      refine G_iload (pc := 32) dX3_raised_32 rfl ?_
      refine S_callV (pc := 34) (ci := 3) (d2 := 1) (mc2 := 0) (ms2 := 0) (As := [_, _]) dX3_raised_34 kX3_product lkX3_23 (by assumption) rfl rfl rfl (Nat.le_of_ble_eq_true rfl) ⟨by decide, by decide⟩ (by decide) ?_
      refine c_X3_product hr hP hsb hsb ?_
      show G _ _ _ _ _ _ _ _ _ _ _ _ _
      refine G_istore (pc := 37) (ls' := [(4, _), (3, _), (5, _), (0, _)]) dX3_raised_37 (by decide) rfl ?_
      refine G_iload (pc := 39) dX3_raised_39 rfl ?_
      refine G_iconst (pc := 41) dX3_raised_41 ?_
      refine G_ishr (pc := 42) dX3_raised_42 (iI_shr1 hl) ?_
      refine G_istore (pc := 43) (ls' := [(5, _), (4, _), (3, _), (0, _)]) dX3_raised_43 (by decide) rfl ?_
      refine G_goto (pc := 45) 8 dX3_raised_45 rfl ?_
      first | exact ih (l / 2) _ _ (by omega) (by omega) em em2 (pw_odd hl.1 (by omega) hi) | exact ih (l / 2) _ _ (by omega) (by omega) hrb em2 (pw_even hl.1 (by omega) hi)
set_option maxRecDepth 100000 in
set_option maxHeartbeats 4000000 in
theorem c_X3_raised {g : GC} {p : Int} {sh : SH} {S : SS} {n k : Nat} {x e : Int} {Q : Option Value → GA → Nat → Prop} (hr : IsRests p sh S k) (hP : IsP p) (hx : 0 ≤ x ∧ x < p) (he : 0 ≤ e ∧ e ≤ 2147483647) (hq : Q (some (.int (iI (x ^ e.toNat % p)))) (hp g sh S) n) : GCall g mX3_raised 2 0 0 [gr g k, .int (iI x), .int (iI e)] (hp g sh S) n Q := by
  have hpb := hP.bd
  refine GCall.of (by decide) (Nat.le_of_ble_eq_true rfl) (ls := [(0, _), (1, _), (2, _)]) rfl ?_
  refine G_iconst (pc := 0) dX3_raised_0 ?_
  refine G_istore_n (pc := 1) (ls' := [(3, _), (0, _), (1, _), (2, _)]) dX3_raised_1 (by decide) rfl ?_
  refine G_iload_n (pc := 2) dX3_raised_2 rfl ?_
  refine G_istore (pc := 3) (ls' := [(4, _), (3, _), (0, _), (1, _), (2, _)]) dX3_raised_3 (by decide) rfl ?_
  refine G_iload_n (pc := 5) dX3_raised_5 rfl ?_
  refine G_istore (pc := 6) (ls' := [(5, _), (4, _), (3, _), (0, _), (1, _), (2, _)]) dX3_raised_6 (by decide) rfl ?_
  refine G_ls (ls' := [(5, _), (4, _), (3, _), (0, _)]) (lsub_c rfl (lsub_c rfl (lsub_c rfl (lsub_c rfl lsub_n)))) ?_
  exact l_X3_raised hr hP hq e.toNat e 1 x (by omega) he (by omega) hx (by rw [Int.one_mul])
set_option maxRecDepth 100000 in
set_option maxHeartbeats 4000000 in
theorem c_X3_inverse {g : GC} {p : Int} {sh : SH} {S : SS} {n k : Nat} {x : Int} {Q : Option Value → GA → Nat → Prop} (hr : IsRests p sh S k) (hP : IsP p) (hx : 0 ≤ x ∧ x < p) (hq : Q (some (.int (iI (inv p x)))) (hp g sh S) n) : GCall g mX3_inverse 3 0 0 [gr g k, .int (iI x)] (hp g sh S) n Q := by
  have hpb := hP.bd
  have h1 := hr.1
  refine GCall.of (by decide) (Nat.le_of_ble_eq_true rfl) (ls := [(0, _), (1, _)]) rfl ?_
  refine S_aload_n (pc := 0) dX3_inverse_0 rfl ?_
  refine G_iload_n (pc := 1) dX3_inverse_1 rfl ?_
  refine S_aload_n (pc := 2) dX3_inverse_2 rfl ?_
  refine S_getI (pc := 3) dX3_inverse_3 fX3_13 (by assumption) rfl ?_
  rw [hr.2]
  refine G_iconst (pc := 6) dX3_inverse_6 ?_
  refine G_isub (pc := 7) dX3_inverse_7 ?_
  refine S_callV (pc := 8) (ci := 3) (d2 := 2) (mc2 := 0) (ms2 := 0) (As := [_, _]) dX3_inverse_8 kX3_raised lkX3_26 (by assumption) rfl rfl rfl (Nat.le_of_ble_eq_true rfl) ⟨by decide, by decide⟩ (by decide) ?_
  refine c_X3_raised hr hP hx (by omega) ?_
  show G _ _ _ _ _ _ _ _ _ _ _ _ _
  refine G_iret (pc := 11) dX3_inverse_11 rfl (by decide) ?_
  exact hq
