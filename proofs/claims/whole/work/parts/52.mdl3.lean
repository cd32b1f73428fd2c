/-! the Model: worth, moveRow, scale; put, at, clear, move, order -/
set_option maxRecDepth 100000 in
set_option maxHeartbeats 4000000 in
theorem l_X10_worth {g : GC} {p r x : Int} {sh : SH} {S : SS} {n : Nat} {Q : Option Value → GA → Nat → Prop} (hW : MdW p sh S) (hr : 0 ≤ r ∧ r ≤ 15) (hx : 0 ≤ x ∧ x < p) (hq : Q (some (.int (iI (ev (mg S r) x 80 % p)))) (hp g sh S) n) : ∀ (m : Nat) (i : Int), i + 1 = m → i < plen (mg S r) 80 → G g mX10_worth 2 0 0 11 [(4, .int (iI i)), (3, .int (iI (tv (mg S r) x (plen (mg S r) 80) (plen (mg S r) 80 - i - 1).toNat % p))), (0, gr g 96), (1, .int (iI r)), (2, .int (iI x))] [] (hp g sh S) n 0 0 Q := by
  intro m
  obtain ⟨hP, h96, hp1, p2, h97, hred⟩ := hW
  have hpb := hP.bd
  have hb := plen_bd (mg S r) 80
  induction m with
  | zero =>
    intro i hi hi2
    have e := ev_len (x := x) (mg_sup (S := S) (r := r))
    rw [← e] at hq
    refine G_iload (pc := 11) dX10_worth_11 rfl ?_
    refine G_if_lt_t (pc := 13) 44 dX10_worth_13 rfl (by omega) (by omega) ?_
    refine G_iload_n (pc := 44) dX10_worth_44 rfl ?_
    refine G_iret (pc := 45) dX10_worth_45 rfl (by decide) ?_
    rw [show i = -1 by omega]
    exact Q_i (by congr 2; omega) hq
  | succ m ih =>
    intro i hi hi2
    have hxi := hred (80 * r + i)
    have e1 : S.2.1 97 (80 * r + i) = mg S r i := mg_at (by omega) rfl
    rw [e1] at hxi
    have ht := em_bd (z := tv (mg S r) x (plen (mg S r) 80) (plen (mg S r) 80 - i - 1).toNat) (p := p) (by omega)
    have hm := mul_bd ht hx hpb.2
    have key : (tv (mg S r) x (plen (mg S r) 80) (plen (mg S r) 80 - i - 1).toNat % p * x + mg S r i) % p = tv (mg S r) x (plen (mg S r) 80) (plen (mg S r) 80 - (i - 1) - 1).toNat % p := by
      rw [show (plen (mg S r) 80 - (i - 1) - 1).toNat = (plen (mg S r) 80 - i - 1).toNat + 1 by omega]
      show _ = (mg S r (plen (mg S r) 80 - ((plen (mg S r) 80 - i - 1).toNat + 1 : Nat)) + x * tv (mg S r) x (plen (mg S r) 80) (plen (mg S r) 80 - i - 1).toNat) % p
      rw [show plen (mg S r) 80 - ((plen (mg S r) 80 - i - 1).toNat + 1 : Nat) = i by omega, Int.add_emod, em_mul_l, ← Int.add_emod, Int.mul_comm x, Int.add_comm]
    refine G_iload (pc := 11) dX10_worth_11 rfl ?_
    refine G_if_lt_f (pc := 13) 44 dX10_worth_13 rfl (by omega) (by omega) ?_
    refine G_iload_n (pc := 16) dX10_worth_16 rfl ?_
    refine G_iload_n (pc := 17) dX10_worth_17 rfl ?_
    refine G_imul (pc := 18) dX10_worth_18 ?_
    refine S_aload_n (pc := 19) dX10_worth_19 rfl ?_
    refine S_getR (pc := 20) dX10_worth_20 fX10_13 (by assumption) rfl (by assumption) ?_
    refine G_bipush (pc := 23) dX10_worth_23 rfl ?_
    refine G_iload_n (pc := 25) dX10_worth_25 rfl ?_
    refine G_imul (pc := 26) dX10_worth_26 ?_
    refine G_iload (pc := 27) dX10_worth_27 rfl ?_
    refine G_iadd (pc := 29) dX10_worth_29 ?_
    refine S_iald (pc := 30) dX10_worth_30 (by assumption) (by omega) ?_
    rw [e1]
    refine G_iadd (pc := 31) dX10_worth_31 ?_
    refine S_aload_n (pc := 32) dX10_worth_32 rfl ?_
    refine S_getI (pc := 33) dX10_worth_33 fX10_64 (by assumption) rfl ?_
    rw [hp1]
    refine G_iremP (pc := 36) dX10_worth_36 (by omega) ?_
    rw [key]
    refine G_istore_n (pc := 37) (ls' := [(3, _), (4, _), (0, _), (1, _), (2, _)]) dX10_worth_37 (by decide) rfl ?_
    refine G_iinc (pc := 38) (ls' := [(4, _), (3, _), (0, _), (1, _), (2, _)]) dX10_worth_38 rfl (by decide) rfl ?_
    refine G_goto (pc := 41) 11 dX10_worth_41 rfl ?_
    exact ih (i + -1) (by omega) (by omega)
set_option maxRecDepth 100000 in
set_option maxHeartbeats 4000000 in
theorem c_X10_worth {g : GC} {p r x : Int} {sh : SH} {S : SS} {n : Nat} {Q : Option Value → GA → Nat → Prop} (hW : MdW p sh S) (hr : 0 ≤ r ∧ r ≤ 15) (hx : 0 ≤ x ∧ x < p) (hq : Q (some (.int (iI (ev (mg S r) x 80 % p)))) (hp g sh S) n) : GCall g mX10_worth 2 0 0 [gr g 96, .int (iI r), .int (iI x)] (hp g sh S) n Q := by
  have h96 := hW.2.1
  have hb := plen_bd (mg S r) 80
  refine GCall.of (by decide) (Nat.le_of_ble_eq_true rfl) (ls := [(0, _), (1, _), (2, _)]) rfl ?_
  refine G_iconst (pc := 0) dX10_worth_0 ?_
  refine G_istore_n (pc := 1) (ls' := [(3, _), (0, _), (1, _), (2, _)]) dX10_worth_1 (by decide) rfl ?_
  refine S_aload_n (pc := 2) dX10_worth_2 rfl ?_
  refine G_iload_n (pc := 3) dX10_worth_3 rfl ?_
  refine S_callV (pc := 4) (ci := 10) (d2 := 1) (mc2 := 0) (ms2 := 0) (As := [_]) dX10_worth_4 kX10_length lkX10_94 (by assumption) rfl rfl rfl (Nat.le_of_ble_eq_true rfl) ⟨by decide, by decide⟩ (by decide) ?_
  refine c_X10_length hW hr ?_
  show G _ _ _ _ _ _ _ _ _ _ _ _ _
  refine G_iconst (pc := 7) dX10_worth_7 ?_
  refine G_isub (pc := 8) dX10_worth_8 ?_
  refine G_istore (pc := 9) (ls' := [(4, _), (3, _), (0, _), (1, _), (2, _)]) dX10_worth_9 (by decide) rfl ?_
  have := l_X10_worth hW hr hx hq (plen (mg S r) 80).toNat (plen (mg S r) 80 - 1) (by omega) (by omega)
  rw [show (plen (mg S r) 80 - (plen (mg S r) 80 - 1) - 1).toNat = 0 by omega] at this
  exact this
set_option maxRecDepth 100000 in
set_option maxHeartbeats 4000000 in
theorem l_X10_moveRowI {g : GC} {p b r L k : Int} {sh : SH} {S : SS} {n : Nat} {ys : Int → Int} {Q : Option Value → GA → Nat → Prop} (hW : MdW p sh S) (hr : 0 ≤ r ∧ r ≤ 15) (hb : 0 ≤ b ∧ b < p) (hL : 1 ≤ L ∧ L ≤ 80) (hk : 0 ≤ k ∧ k ≤ L - 1) (hys : Sup ys 80) (hyr : Red p ys)
    (K : G g mX10_moveRow 2 0 0 79 [(4, .int (iI k)), (3, .int (iI L)), (0, gr g 96), (1, .int (iI r)), (2, .int (iI b))] [] (hp g sh (mset S r (mvin p b L ys (L - 1 - k).toNat))) n 0 0 Q) : ∀ (m t : Nat), t + m = (L - 1 - k).toNat → G g mX10_moveRow 2 0 0 20 [(5, .int (iI (L - 2 - t))), (4, .int (iI k)), (3, .int (iI L)), (0, gr g 96), (1, .int (iI r)), (2, .int (iI b))] [] (hp g sh (mset S r (mvin p b L ys t))) n 0 0 Q := by
  intro m
  obtain ⟨hP, h96, hp1, p2, h97, hred⟩ := hW
  have hpb := hP.bd
  induction m with
  | zero =>
    intro t ht
    refine G_iload (pc := 20) dX10_moveRow_20 rfl ?_
    refine G_iload (pc := 22) dX10_moveRow_22 rfl ?_
    refine G_icmp_lt_t (pc := 24) 79 dX10_moveRow_24 rfl (by omega) (by omega) ?_
    refine G_ls (ls' := [(4, _), (3, _), (0, _), (1, _), (2, _)]) (lsub_c rfl (lsub_c rfl (lsub_c rfl (lsub_c rfl (lsub_c rfl lsub_n))))) ?_
    rw [← ht] at K
    exact K
  | succ m ih =>
    intro t ht
    have hs := mvin_sup (p := p) (b := b) hys (show L ≤ ((80 : Nat) : Int) by omega) t (by omega)
    have hr' := mvin_red (b := b) (L := L) (p := p) (by omega) hyr t
    have e1 : (mset S r (mvin p b L ys t)).2.1 97 (80 * r + (L - 2 - t)) = mvin p b L ys t (L - 2 - t) := by rw [mg_at (r := r) (i := L - 2 - t) (by omega) (by omega), mg_set hs]
    have e2 : (mset S r (mvin p b L ys t)).2.1 97 (80 * r + (L - 2 - t) + 1) = mvin p b L ys t (L - 1 - t) := by rw [mg_at (r := r) (i := L - 1 - t) (by omega) (by omega), mg_set hs]
    have e3 : (mset S r (mvin p b L ys t)).1 96 1 = p := hp1
    have hx := hr' (L - 2 - t)
    have hy := hr' (L - 1 - t)
    have hm := mul_bd hb hy hpb.2
    refine G_iload (pc := 20) dX10_moveRow_20 rfl ?_
    refine G_iload (pc := 22) dX10_moveRow_22 rfl ?_
    refine G_icmp_lt_f (pc := 24) 79 dX10_moveRow_24 rfl (by omega) (by omega) ?_
    refine S_aload_n (pc := 27) dX10_moveRow_27 rfl ?_
    refine S_getR (pc := 28) dX10_moveRow_28 fX10_13 (by assumption) rfl (by assumption) ?_
    refine G_bipush (pc := 31) dX10_moveRow_31 rfl ?_
    refine G_iload_n (pc := 33) dX10_moveRow_33 rfl ?_
    refine G_imul (pc := 34) dX10_moveRow_34 ?_
    refine G_iload (pc := 35) dX10_moveRow_35 rfl ?_
    refine G_iadd (pc := 37) dX10_moveRow_37 ?_
    refine S_aload_n (pc := 38) dX10_moveRow_38 rfl ?_
    refine S_getR (pc := 39) dX10_moveRow_39 fX10_13 (by assumption) rfl (by assumption) ?_
    refine G_bipush (pc := 42) dX10_moveRow_42 rfl ?_
    refine G_iload_n (pc := 44) dX10_moveRow_44 rfl ?_
    refine G_imul (pc := 45) dX10_moveRow_45 ?_
    refine G_iload (pc := 46) dX10_moveRow_46 rfl ?_
    refine G_iadd (pc := 48) dX10_moveRow_48 ?_
    refine S_iald (pc := 49) dX10_moveRow_49 (by assumption) (by omega) ?_
    rw [e1]
    refine G_iload_n (pc := 50) dX10_moveRow_50 rfl ?_
    refine S_aload_n (pc := 51) dX10_moveRow_51 rfl ?_
    refine S_getR (pc := 52) dX10_moveRow_52 fX10_13 (by assumption) rfl (by assumption) ?_
    refine G_bipush (pc := 55) dX10_moveRow_55 rfl ?_
    refine G_iload_n (pc := 57) dX10_moveRow_57 rfl ?_
    refine G_imul (pc := 58) dX10_moveRow_58 ?_
    refine G_iload (pc := 59) dX10_moveRow_59 rfl ?_
    refine G_iadd (pc := 61) dX10_moveRow_61 ?_
    refine G_iconst (pc := 62) dX10_moveRow_62 ?_
    refine G_iadd (pc := 63) dX10_moveRow_63 ?_
    refine S_iald (pc := 64) dX10_moveRow_64 (by assumption) (by omega) ?_
    rw [e2]
    refine G_imul (pc := 65) dX10_moveRow_65 ?_
    refine G_iadd (pc := 66) dX10_moveRow_66 ?_
    refine S_aload_n (pc := 67) dX10_moveRow_67 rfl ?_
    refine S_getI (pc := 68) dX10_moveRow_68 fX10_64 (by assumption) rfl ?_
    rw [e3]
    refine G_iremP (pc := 71) dX10_moveRow_71 (by omega) ?_
    refine S_iast (pc := 72) dX10_moveRow_72 (by assumption) (by omega) ?_
    refine G_iinc (pc := 73) (ls' := [(5, _), (4, _), (3, _), (0, _), (1, _), (2, _)]) dX10_moveRow_73 rfl (by decide) rfl ?_
    refine G_goto (pc := 76) 20 dX10_moveRow_76 rfl ?_
    rw [mset_setA (by omega), show iup (mvin p b L ys t) (L - 2 - t) ((mvin p b L ys t (L - 2 - t) + b * mvin p b L ys t (L - 1 - t)) % p) = mvin p b L ys (t + 1) from rfl]
    have := ih (t + 1) (by omega)
    rw [show L - 2 - ((t + 1 : Nat) : Int) = L - 2 - t + -1 by omega] at this
    exact this
set_option maxRecDepth 100000 in
set_option maxHeartbeats 4000000 in
theorem l_X10_moveRow {g : GC} {p b r : Int} {sh : SH} {S : SS} {n : Nat} {Q : Option Value → GA → Nat → Prop} (hW : MdW p sh S) (hr : 0 ≤ r ∧ r ≤ 15) (hb : 0 ≤ b ∧ b < p) (hq : Q none (hp g sh (mset S r (pmove p b (mg S r) 80))) n) : ∀ (m k : Nat), k + m = plen (mg S r) 80 → (k : Int) ≤ plen (mg S r) 80 → G g mX10_moveRow 2 0 0 9 [(4, .int (iI k)), (3, .int (iI (plen (mg S r) 80))), (0, gr g 96), (1, .int (iI r)), (2, .int (iI b))] [] (hp g sh (mset S r (mvout p b (plen (mg S r) 80) (mg S r) k))) n 0 0 Q := by
  intro m
  have hbl := plen_bd (mg S r) 80
  have hpb := hW.1.bd
  have hsup : ∀ k : Nat, (k : Int) ≤ plen (mg S r) 80 → Sup (mvout p b (plen (mg S r) 80) (mg S r) k) 80 := fun k hk => by
    by_cases h : (k : Int) ≤ plen (mg S r) 80 - 1
    · exact mvout_sup mg_sup (by omega) k h
    · cases k with
      | zero => exact mg_sup
      | succ k =>
        show Sup (mvin p b (plen (mg S r) 80) (mvout p b (plen (mg S r) 80) (mg S r) k) (plen (mg S r) 80 - 1 - k).toNat) 80
        exact mvin_sup (mvout_sup mg_sup (by omega) k (by omega)) (by omega) _ (by omega)
  have hlast : mvout p b (plen (mg S r) 80) (mg S r) (plen (mg S r) 80).toNat = pmove p b (mg S r) 80 := by
    unfold pmove
    by_cases h0 : plen (mg S r) 80 = 0
    · rw [h0]; rfl
    · rw [show (plen (mg S r) 80).toNat = (plen (mg S r) 80 - 1).toNat + 1 by omega]
      show mvin p b (plen (mg S r) 80) (mvout p b (plen (mg S r) 80) (mg S r) (plen (mg S r) 80 - 1).toNat) (plen (mg S r) 80 - 1 - ((plen (mg S r) 80 - 1).toNat : Int)).toNat = _
      rw [show (plen (mg S r) 80 - 1 - ((plen (mg S r) 80 - 1).toNat : Int)).toNat = 0 by omega]
      rfl
  induction m with
  | zero =>
    intro k hk _
    refine G_iload (pc := 9) dX10_moveRow_9 rfl ?_
    refine G_iload_n (pc := 11) dX10_moveRow_11 rfl ?_
    refine G_icmp_ge_t (pc := 12) 85 dX10_moveRow_12 rfl (by omega) (by omega) ?_
    refine G_vret (pc := 85) dX10_moveRow_85 rfl (by decide) ?_
    refine Q_S ?_ hq
    rw [show k = (plen (mg S r) 80).toNat by omega, hlast]
  | succ m ih =>
    intro k hk hk2
    have K : G g mX10_moveRow 2 0 0 79 [(4, .int (iI k)), (3, .int (iI (plen (mg S r) 80))), (0, gr g 96), (1, .int (iI r)), (2, .int (iI b))] [] (hp g sh (mset S r (mvin p b (plen (mg S r) 80) (mvout p b (plen (mg S r) 80) (mg S r) k) (plen (mg S r) 80 - 1 - k).toNat))) n 0 0 Q := by
      refine G_iinc (pc := 79) (ls' := [(4, _), (3, _), (0, _), (1, _), (2, _)]) dX10_moveRow_79 rfl (by decide) rfl ?_
      refine G_goto (pc := 82) 9 dX10_moveRow_82 rfl ?_
      exact ih (k + 1) (by omega) (by omega)
    have hin := l_X10_moveRowI hW hr hb (by omega) (by omega) (hsup k hk2) (mvout_red (by omega) (mg_red hW) k) K (plen (mg S r) 80 - 1 - k).toNat 0 (by omega)
    rw [show plen (mg S r) 80 - 2 - ((0 : Nat) : Int) = plen (mg S r) 80 - 2 by omega] at hin
    refine G_iload (pc := 9) dX10_moveRow_9 rfl ?_
    refine G_iload_n (pc := 11) dX10_moveRow_11 rfl ?_
    refine G_icmp_ge_f (pc := 12) 85 dX10_moveRow_12 rfl (by omega) (by omega) ?_
    refine G_iload_n (pc := 15) dX10_moveRow_15 rfl ?_
    refine G_iconst (pc := 16) dX10_moveRow_16 ?_
    refine G_isub (pc := 17) dX10_moveRow_17 ?_
    refine G_istore (pc := 18) (ls' := [(5, _), (4, _), (3, _), (0, _), (1, _), (2, _)]) dX10_moveRow_18 (by decide) rfl ?_
    exact hin
set_option maxRecDepth 100000 in
set_option maxHeartbeats 4000000 in
theorem c_X10_moveRow {g : GC} {p b r : Int} {sh : SH} {S : SS} {n : Nat} {Q : Option Value → GA → Nat → Prop} (hW : MdW p sh S) (hr : 0 ≤ r ∧ r ≤ 15) (hb : 0 ≤ b ∧ b < p) (hq : Q none (hp g sh (mset S r (pmove p b (mg S r) 80))) n) : GCall g mX10_moveRow 2 0 0 [gr g 96, .int (iI r), .int (iI b)] (hp g sh S) n Q := by
  have h96 := hW.2.1
  have hbl := plen_bd (mg S r) 80
  refine GCall.of (by decide) (Nat.le_of_ble_eq_true rfl) (ls := [(0, _), (1, _), (2, _)]) rfl ?_
  refine S_aload_n (pc := 0) dX10_moveRow_0 rfl ?_
  refine G_iload_n (pc := 1) dX10_moveRow_1 rfl ?_
  refine S_callV (pc := 2) (ci := 10) (d2 := 1) (mc2 := 0) (ms2 := 0) (As := [_]) dX10_moveRow_2 kX10_length lkX10_94 (by assumption) rfl rfl rfl (Nat.le_of_ble_eq_true rfl) ⟨by decide, by decide⟩ (by decide) ?_
  refine c_X10_length hW hr ?_
  show G _ _ _ _ _ _ _ _ _ _ _ _ _
  refine G_istore_n (pc := 5) (ls' := [(3, _), (0, _), (1, _), (2, _)]) dX10_moveRow_5 (by decide) rfl ?_
  refine G_iconst (pc := 6) dX10_moveRow_6 ?_
  refine G_istore (pc := 7) (ls' := [(4, _), (3, _), (0, _), (1, _), (2, _)]) dX10_moveRow_7 (by decide) rfl ?_
  have := l_X10_moveRow hW hr hb hq (plen (mg S r) 80).toNat 0 (by omega) (by omega)
  rw [show mset S r (mvout p b (plen (mg S r) 80) (mg S r) 0) = S from mset_self] at this
  exact this
/-- each number f times, below p -/
def pscal (p f : Int) (xs : Int → Int) : Int → Int := fun j => xs j * f % p
theorem pscal_sup {p f : Int} {xs : Int → Int} {N : Nat} (h : Sup xs N) : Sup (pscal p f xs) N := fun j hj => by unfold pscal; rw [h j hj, Int.zero_mul]; exact Int.zero_emod p
set_option maxRecDepth 100000 in
set_option maxHeartbeats 4000000 in
theorem l_X10_scale {g : GC} {p f r : Int} {sh : SH} {S : SS} {n : Nat} {Q : Option Value → GA → Nat → Prop} (hW : MdW p sh S) (hr : 0 ≤ r ∧ r ≤ 15) (hf : 0 ≤ f ∧ f < p) (hq : Q none (hp g sh (mset S r (pscal p f (mg S r)))) n) : ∀ (m : Nat) (i : Int), i + m = 80 → 0 ≤ i → G g mX10_scale 1 0 0 2 [(3, .int (iI i)), (0, gr g 96), (1, .int (iI r)), (2, .int (iI f))] [] (hp g sh (mset S r (mix (pscal p f (mg S r)) (mg S r) i))) n 0 0 Q := by
  intro m
  have hW' := hW
  obtain ⟨hP, h96, hp1, p2, h97, hred⟩ := hW'
  have hpb := hP.bd
  induction m with
  | zero =>
    intro i hi h0
    refine G_iload_n (pc := 2) dX10_scale_2 rfl ?_
    refine G_bipush (pc := 3) dX10_scale_3 rfl ?_
    refine G_icmp_ge_t (pc := 5) 43 dX10_scale_5 rfl (by omega) (by omega) ?_
    refine G_vret (pc := 43) dX10_scale_43 rfl (by decide) ?_
    refine Q_S ?_ hq
    rw [show i = (80 : Nat) by omega, mix_N mg_sup, clip_id (pscal_sup mg_sup)]
  | succ m ih =>
    intro i hi h0
    have e1 : (mset S r (mix (pscal p f (mg S r)) (mg S r) i)).2.1 97 (80 * r + i) = mg S r i := by
      rw [mg_at (r := r) (i := i) (by omega) rfl, mg_set (mix_sup mg_sup (by omega))]
      unfold mix
      rw [if_neg (by omega)]
    have e2 : (mset S r (mix (pscal p f (mg S r)) (mg S r) i)).1 96 1 = p := hp1
    have hm := mul_bd (mg_red (r := r) hW i) hf hpb.2
    refine G_iload_n (pc := 2) dX10_scale_2 rfl ?_
    refine G_bipush (pc := 3) dX10_scale_3 rfl ?_
    refine G_icmp_ge_f (pc := 5) 43 dX10_scale_5 rfl (by omega) (by omega) ?_
    refine S_aload_n (pc := 8) dX10_scale_8 rfl ?_
    refine S_getR (pc := 9) dX10_scale_9 fX10_13 (by assumption) rfl (by assumption) ?_
    refine G_bipush (pc := 12) dX10_scale_12 rfl ?_
    refine G_iload_n (pc := 14) dX10_scale_14 rfl ?_
    refine G_imul (pc := 15) dX10_scale_15 ?_
    refine G_iload_n (pc := 16) dX10_scale_16 rfl ?_
    refine G_iadd (pc := 17) dX10_scale_17 ?_
    refine S_aload_n (pc := 18) dX10_scale_18 rfl ?_
    refine S_getR (pc := 19) dX10_scale_19 fX10_13 (by assumption) rfl (by assumption) ?_
    refine G_bipush (pc := 22) dX10_scale_22 rfl ?_
    refine G_iload_n (pc := 24) dX10_scale_24 rfl ?_
    refine G_imul (pc := 25) dX10_scale_25 ?_
    refine G_iload_n (pc := 26) dX10_scale_26 rfl ?_
    refine G_iadd (pc := 27) dX10_scale_27 ?_
    refine S_iald (pc := 28) dX10_scale_28 (by assumption) (by omega) ?_
    rw [e1]
    refine G_iload_n (pc := 29) dX10_scale_29 rfl ?_
    refine G_imul (pc := 30) dX10_scale_30 ?_
    refine S_aload_n (pc := 31) dX10_scale_31 rfl ?_
    refine S_getI (pc := 32) dX10_scale_32 fX10_64 (by assumption) rfl ?_
    rw [e2]
    refine G_iremP (pc := 35) dX10_scale_35 (by omega) ?_
    refine S_iast (pc := 36) dX10_scale_36 (by assumption) (by omega) ?_
    refine G_iinc (pc := 37) (ls' := [(3, _), (0, _), (1, _), (2, _)]) dX10_scale_37 rfl (by decide) rfl ?_
    refine G_goto (pc := 40) 2 dX10_scale_40 rfl ?_
    rw [mset_setA (by omega), show iup (mix (pscal p f (mg S r)) (mg S r) i) i (mg S r i * f % p) = mix (pscal p f (mg S r)) (mg S r) (i + 1) from mix_S h0]
    exact ih (i + 1) (by omega) (by omega)
set_option maxRecDepth 100000 in
set_option maxHeartbeats 4000000 in
theorem c_X10_scale {g : GC} {p f r : Int} {sh : SH} {S : SS} {n : Nat} {Q : Option Value → GA → Nat → Prop} (hW : MdW p sh S) (hr : 0 ≤ r ∧ r ≤ 15) (hf : 0 ≤ f ∧ f < p) (hq : Q none (hp g sh (mset S r (pscal p f (mg S r)))) n) : GCall g mX10_scale 1 0 0 [gr g 96, .int (iI r), .int (iI f)] (hp g sh S) n Q := by
  refine GCall.of (by decide) (Nat.le_of_ble_eq_true rfl) (ls := [(0, _), (1, _), (2, _)]) rfl ?_
  refine G_iconst (pc := 0) dX10_scale_0 ?_
  refine G_istore_n (pc := 1) (ls' := [(3, _), (0, _), (1, _), (2, _)]) dX10_scale_1 (by decide) rfl ?_
  have := l_X10_scale hW hr hf hq 80 0 (by omega) (by omega)
  rwa [mix_0, mset_self] at this
set_option maxRecDepth 100000 in
set_option maxHeartbeats 4000000 in
theorem c_X10_put {g : GC} {p a i v : Int} {sh : SH} {S : SS} {n : Nat} {Q : Option Value → GA → Nat → Prop} (hW : MdW p sh S) (hr : (-2147483648 ≤ a ∧ a ≤ 2147483647) ∧ (-2147483648 ≤ i ∧ i ≤ 2147483647) ∧ (-2147483648 ≤ v ∧ v ≤ 2147483647)) (h0 : ¬ ((0 ≤ a ∧ a < 8) ∧ (0 ≤ i ∧ i < 32)) → Q (some (.int (iI (-2)))) (hp g sh S) n) (h1 : (0 ≤ a ∧ a < 8) ∧ (0 ≤ i ∧ i < 32) → Q (some (.int (iI (mg S a i)))) (hp g sh (mset S a (iup (mg S a) i (v % p)))) n) : GCall g mX10_put 3 0 0 [gr g 96, .int (iI a), .int (iI i), .int (iI v)] (hp g sh S) n Q := by
  have hW' := hW
  obtain ⟨hP, h96, hp1, p2, h97, hred⟩ := hW'
  obtain ⟨hr1, hr2, hr3⟩ := hr
  refine GCall.of (by decide) (Nat.le_of_ble_eq_true rfl) (ls := [(0, _), (1, _), (2, _), (3, _)]) rfl ?_
  refine G_iload_n (pc := 0) dX10_put_0 rfl ?_
  refine G_callS (pc := 1) (d2 := 2) (mc2 := 0) (ms2 := 0) (As := [_]) dX10_put_1 kX10_isPoly lkX10_98 rfl rfl (Nat.le_of_ble_eq_true rfl) ⟨by decide, by decide⟩ (by decide) ?_
  refine c_X10_isPoly (by omega) (fun w1 => ?_) (fun w1 => ?_)
  · show G _ _ _ _ _ _ _ _ _ _ _ _ _
    refine G_if_eq_f (pc := 4) 17 dX10_put_4 rfl (by decide) (by decide) ?_
    refine G_iload_n (pc := 7) dX10_put_7 rfl ?_
    refine G_iconst (pc := 8) dX10_put_8 ?_
    refine G_bipush (pc := 9) dX10_put_9 rfl ?_
    refine G_callS (pc := 11) (d2 := 1) (mc2 := 0) (ms2 := 0) (As := [_, _, _]) dX10_put_11 kX10_in lkX10_86 rfl rfl (Nat.le_of_ble_eq_true rfl) ⟨by decide, by decide⟩ (by decide) ?_
    refine c_X10_in (by omega) (fun w11 => ?_) (fun w11 => ?_)
    · show G _ _ _ _ _ _ _ _ _ _ _ _ _
      refine G_if_ne_t (pc := 14) 20 dX10_put_14 rfl (by decide) (by decide) ?_
      refine S_aload_n (pc := 20) dX10_put_20 rfl ?_
      refine S_getR (pc := 21) dX10_put_21 fX10_13 (by assumption) rfl (by assumption) ?_
      refine G_bipush (pc := 24) dX10_put_24 rfl ?_
      refine G_iload_n (pc := 26) dX10_put_26 rfl ?_
      refine G_imul (pc := 27) dX10_put_27 ?_
      refine G_iload_n (pc := 28) dX10_put_28 rfl ?_
      refine G_iadd (pc := 29) dX10_put_29 ?_
      refine S_iald (pc := 30) dX10_put_30 (by assumption) (by omega) ?_
      refine G_istore (pc := 31) (ls' := [(4, _), (0, _), (1, _), (2, _), (3, _)]) dX10_put_31 (by decide) rfl ?_
      refine S_aload_n (pc := 33) dX10_put_33 rfl ?_
      refine S_getR (pc := 34) dX10_put_34 fX10_13 (by assumption) rfl (by assumption) ?_
      refine G_bipush (pc := 37) dX10_put_37 rfl ?_
      refine G_iload_n (pc := 39) dX10_put_39 rfl ?_
      refine G_imul (pc := 40) dX10_put_40 ?_
      refine G_iload_n (pc := 41) dX10_put_41 rfl ?_
      refine G_iadd (pc := 42) dX10_put_42 ?_
      refine S_aload_n (pc := 43) dX10_put_43 rfl ?_
      refine G_iload_n (pc := 44) dX10_put_44 rfl ?_
      refine S_callV (pc := 45) (ci := 10) (d2 := 1) (mc2 := 0) (ms2 := 0) (As := [_]) dX10_put_45 kX10_rest lkX10_102 (by assumption) rfl rfl rfl (Nat.le_of_ble_eq_true rfl) ⟨by decide, by decide⟩ (by decide) ?_
      refine c_X10_rest hW hr3 ?_
      show G _ _ _ _ _ _ _ _ _ _ _ _ _
      refine S_iast (pc := 48) dX10_put_48 (by assumption) (by omega) ?_
      refine G_iload (pc := 49) dX10_put_49 rfl ?_
      refine G_iret (pc := 51) dX10_put_51 rfl (by decide) ?_
      have := h1 (by omega)
      rw [← mg_at (S := S) (r := a) (i := i) (by omega) rfl, show mset S a (iup (mg S a) i (v % p)) = setA S 97 (80 * a + i) (v % p) by rw [← mset_setA (by omega), mset_self]] at this
      exact this
    · show G _ _ _ _ _ _ _ _ _ _ _ _ _
      refine G_if_ne_f (pc := 14) 20 dX10_put_14 rfl (by decide) (by decide) ?_
      refine G_bipush (pc := 17) dX10_put_17 rfl ?_
      refine G_iret (pc := 19) dX10_put_19 rfl (by decide) ?_
      exact h0 (by omega)
  · show G _ _ _ _ _ _ _ _ _ _ _ _ _
    refine G_if_eq_t (pc := 4) 17 dX10_put_4 rfl (by decide) (by decide) ?_
    refine G_bipush (pc := 17) dX10_put_17 rfl ?_
    refine G_iret (pc := 19) dX10_put_19 rfl (by decide) ?_
    exact h0 (by omega)
set_option maxRecDepth 100000 in
set_option maxHeartbeats 4000000 in
theorem c_X10_at {g : GC} {p a i : Int} {sh : SH} {S : SS} {n : Nat} {Q : Option Value → GA → Nat → Prop} (hW : MdW p sh S) (hr : (-2147483648 ≤ a ∧ a ≤ 2147483647) ∧ (-2147483648 ≤ i ∧ i ≤ 2147483647)) (h0 : ¬ ((0 ≤ a ∧ a < 8) ∧ (-1 ≤ i ∧ i < 32)) → Q (some (.int (iI (-2)))) (hp g sh S) n) (h1 : (0 ≤ a ∧ a < 8) → i = -1 → Q (some (.int (iI (plen (mg S a) 80)))) (hp g sh S) n) (h2 : (0 ≤ a ∧ a < 8) → (0 ≤ i ∧ i < 32) → Q (some (.int (iI (mg S a i)))) (hp g sh S) n) : GCall g mX10_at 3 0 0 [gr g 96, .int (iI a), .int (iI i)] (hp g sh S) n Q := by
  have hW' := hW
  obtain ⟨hP, h96, hp1, p2, h97, hred⟩ := hW'
  obtain ⟨hr1, hr2⟩ := hr
  refine GCall.of (by decide) (Nat.le_of_ble_eq_true rfl) (ls := [(0, _), (1, _), (2, _)]) rfl ?_
  refine G_iload_n (pc := 0) dX10_at_0 rfl ?_
  refine G_callS (pc := 1) (d2 := 2) (mc2 := 0) (ms2 := 0) (As := [_]) dX10_at_1 kX10_isPoly lkX10_98 rfl rfl (Nat.le_of_ble_eq_true rfl) ⟨by decide, by decide⟩ (by decide) ?_
  refine c_X10_isPoly (by omega) (fun w1 => ?_) (fun w1 => ?_)
  · show G _ _ _ _ _ _ _ _ _ _ _ _ _
    refine G_if_eq_f (pc := 4) 17 dX10_at_4 rfl (by decide) (by decide) ?_
    refine G_iload_n (pc := 7) dX10_at_7 rfl ?_
    refine G_iconst (pc := 8) dX10_at_8 ?_
    refine G_bipush (pc := 9) dX10_at_9 rfl ?_
    refine G_callS (pc := 11) (d2 := 1) (mc2 := 0) (ms2 := 0) (As := [_, _, _]) dX10_at_11 kX10_in lkX10_86 rfl rfl (Nat.le_of_ble_eq_true rfl) ⟨by decide, by decide⟩ (by decide) ?_
    refine c_X10_in (by omega) (fun w11 => ?_) (fun w11 => ?_)
    · show G _ _ _ _ _ _ _ _ _ _ _ _ _
      refine G_if_ne_t (pc := 14) 22 dX10_at_14 rfl (by decide) (by decide) ?_
      refine G_iload_n (pc := 22) dX10_at_22 rfl ?_
      refine G_if_ge (pc := 23) 34 dX10_at_23 rfl (by omega) (fun c23 => ?_) (fun c23 => ?_)
      · skip
        refine S_aload_n (pc := 34) dX10_at_34 rfl ?_
        refine S_getR (pc := 35) dX10_at_35 fX10_13 (by assumption) rfl (by assumption) ?_
        refine G_bipush (pc := 38) dX10_at_38 rfl ?_
        refine G_iload_n (pc := 40) dX10_at_40 rfl ?_
        refine G_imul (pc := 41) dX10_at_41 ?_
        refine G_iload_n (pc := 42) dX10_at_42 rfl ?_
        refine G_iadd (pc := 43) dX10_at_43 ?_
        refine S_iald (pc := 44) dX10_at_44 (by assumption) (by omega) ?_
        refine G_iret (pc := 45) dX10_at_45 rfl (by decide) ?_
        first
          | exact h0 (by omega)
          | exact h1 (by omega) (by omega)
          | (have := h2 (by omega) (by omega)
             rw [← mg_at (S := S) (r := a) (i := i) (by omega) rfl] at this
             exact this)
      · skip
        refine S_aload_n (pc := 26) dX10_at_26 rfl ?_
        refine G_iload_n (pc := 27) dX10_at_27 rfl ?_
        refine S_callV (pc := 28) (ci := 10) (d2 := 1) (mc2 := 0) (ms2 := 0) (As := [_]) dX10_at_28 kX10_length lkX10_94 (by assumption) rfl rfl rfl (Nat.le_of_ble_eq_true rfl) ⟨by decide, by decide⟩ (by decide) ?_
        refine c_X10_length hW (by omega) ?_
        show G _ _ _ _ _ _ _ _ _ _ _ _ _
        refine G_goto (pc := 31) 45 dX10_at_31 rfl ?_
        refine G_iret (pc := 45) dX10_at_45 rfl (by decide) ?_
        first
          | exact h0 (by omega)
          | exact h1 (by omega) (by omega)
          | (have := h2 (by omega) (by omega)
             rw [← mg_at (S := S) (r := a) (i := i) (by omega) rfl] at this
             exact this)
    · show G _ _ _ _ _ _ _ _ _ _ _ _ _
      refine G_if_ne_f (pc := 14) 22 dX10_at_14 rfl (by decide) (by decide) ?_
      refine G_bipush (pc := 17) dX10_at_17 rfl ?_
      refine G_goto (pc := 19) 45 dX10_at_19 rfl ?_
      refine G_iret (pc := 45) dX10_at_45 rfl (by decide) ?_
      first
        | exact h0 (by omega)
        | exact h1 (by omega) (by omega)
        | (have := h2 (by omega) (by omega)
           rw [← mg_at (S := S) (r := a) (i := i) (by omega) rfl] at this
           exact this)
  · show G _ _ _ _ _ _ _ _ _ _ _ _ _
    refine G_if_eq_t (pc := 4) 17 dX10_at_4 rfl (by decide) (by decide) ?_
    refine G_bipush (pc := 17) dX10_at_17 rfl ?_
    refine G_goto (pc := 19) 45 dX10_at_19 rfl ?_
    refine G_iret (pc := 45) dX10_at_45 rfl (by decide) ?_
    first
      | exact h0 (by omega)
      | exact h1 (by omega) (by omega)
      | (have := h2 (by omega) (by omega)
         rw [← mg_at (S := S) (r := a) (i := i) (by omega) rfl] at this
         exact this)
set_option maxRecDepth 100000 in
set_option maxHeartbeats 4000000 in
theorem c_X10_clear {g : GC} {p a : Int} {sh : SH} {S : SS} {n : Nat} {Q : Option Value → GA → Nat → Prop} (hW : MdW p sh S) (hr : -2147483648 ≤ a ∧ a ≤ 2147483647) (h0 : ¬ (0 ≤ a ∧ a < 8) → Q (some (.int (iI (-2)))) (hp g sh S) n) (h1 : (0 ≤ a ∧ a < 8) → Q (some (.int (iI (plen (mg S a) 80)))) (hp g sh (mset S a pz)) n) : GCall g mX10_clear 3 0 0 [gr g 96, .int (iI a)] (hp g sh S) n Q := by
  have hW' := hW
  obtain ⟨hP, h96, hp1, p2, h97, hred⟩ := hW'
  refine GCall.of (by decide) (Nat.le_of_ble_eq_true rfl) (ls := [(0, _), (1, _)]) rfl ?_
  refine G_iload_n (pc := 0) dX10_clear_0 rfl ?_
  refine G_callS (pc := 1) (d2 := 2) (mc2 := 0) (ms2 := 0) (As := [_]) dX10_clear_1 kX10_isPoly lkX10_98 rfl rfl (Nat.le_of_ble_eq_true rfl) ⟨by decide, by decide⟩ (by decide) ?_
  refine c_X10_isPoly (by omega) (fun w1 => ?_) (fun w1 => ?_)
  · show G _ _ _ _ _ _ _ _ _ _ _ _ _
    refine G_if_ne_t (pc := 4) 10 dX10_clear_4 rfl (by decide) (by decide) ?_
    refine S_aload_n (pc := 10) dX10_clear_10 rfl ?_
    refine G_iload_n (pc := 11) dX10_clear_11 rfl ?_
    refine S_callV (pc := 12) (ci := 10) (d2 := 1) (mc2 := 0) (ms2 := 0) (As := [_]) dX10_clear_12 kX10_length lkX10_94 (by assumption) rfl rfl rfl (Nat.le_of_ble_eq_true rfl) ⟨by decide, by decide⟩ (by decide) ?_
    refine c_X10_length hW (by omega) ?_
    show G _ _ _ _ _ _ _ _ _ _ _ _ _
    refine G_istore_n (pc := 15) (ls' := [(2, _), (0, _), (1, _)]) dX10_clear_15 (by decide) rfl ?_
    refine S_aload_n (pc := 16) dX10_clear_16 rfl ?_
    refine G_iload_n (pc := 17) dX10_clear_17 rfl ?_
    refine S_callV (pc := 18) (ci := 10) (d2 := 1) (mc2 := 0) (ms2 := 0) (As := [_]) dX10_clear_18 kX10_empty lkX10_105 (by assumption) rfl rfl rfl (Nat.le_of_ble_eq_true rfl) ⟨by decide, by decide⟩ (by decide) ?_
    refine c_X10_empty hW (by omega) ?_
    show G _ _ _ _ _ _ _ _ _ _ _ _ _
    refine G_iload_n (pc := 21) dX10_clear_21 rfl ?_
    refine G_iret (pc := 22) dX10_clear_22 rfl (by decide) ?_
    exact h1 (by omega)
  · show G _ _ _ _ _ _ _ _ _ _ _ _ _
    refine G_if_ne_f (pc := 4) 10 dX10_clear_4 rfl (by decide) (by decide) ?_
    refine G_bipush (pc := 7) dX10_clear_7 rfl ?_
    refine G_iret (pc := 9) dX10_clear_9 rfl (by decide) ?_
    exact h0 (by omega)
set_option maxRecDepth 100000 in
set_option maxHeartbeats 4000000 in
theorem c_X10_move {g : GC} {p t a v : Int} {sh : SH} {S : SS} {n : Nat} {Q : Option Value → GA → Nat → Prop} (hW : MdW p sh S) (hr : (-2147483648 ≤ t ∧ t ≤ 2147483647) ∧ (-2147483648 ≤ a ∧ a ≤ 2147483647) ∧ (-2147483648 ≤ v ∧ v ≤ 2147483647)) (h0 : ¬ ((0 ≤ t ∧ t < 8) ∧ (0 ≤ a ∧ a < 8)) → Q (some (.int (iI (-2)))) (hp g sh S) n) (h1 : (0 ≤ t ∧ t < 8) → (0 ≤ a ∧ a < 8) → Q (some (.int (iI (plen (pmove p (v % p) (mg S a) 80) 80)))) (hp g sh (mset (mset S 8 (pmove p (v % p) (mg S a) 80)) t (pmove p (v % p) (mg S a) 80))) n) : GCall g mX10_move 3 0 0 [gr g 96, .int (iI t), .int (iI a), .int (iI v)] (hp g sh S) n Q := by
  have hW' := hW
  obtain ⟨hP, h96, hp1, p2, h97, hred⟩ := hW'
  have hpb := hP.bd
  obtain ⟨hr1, hr2, hr3⟩ := hr
  have hW2 : MdW p sh (mset S 8 (mg S a)) := MdW_set hW (mg_red hW)
  have hem := em_bd (z := v) (p := p) (by omega)
  have hbl := plen_bd (mg S a) 80
  have hs : Sup (pmove p (v % p) (mg S a) 80) 80 := by
    unfold pmove
    by_cases h0 : plen (mg S a) 80 - 1 < 0
    · rw [show (plen (mg S a) 80 - 1).toNat = 0 by omega]; exact mg_sup
    · exact mvout_sup mg_sup (by omega) _ (by omega)
  have hW3 : MdW p sh (mset S 8 (pmove p (v % p) (mg S a) 80)) := MdW_set hW (mvout_red (by omega) (mg_red hW) _)
  refine GCall.of (by decide) (Nat.le_of_ble_eq_true rfl) (ls := [(0, _), (1, _), (2, _), (3, _)]) rfl ?_
  refine G_iload_n (pc := 0) dX10_move_0 rfl ?_
  refine G_callS (pc := 1) (d2 := 2) (mc2 := 0) (ms2 := 0) (As := [_]) dX10_move_1 kX10_isPoly lkX10_98 rfl rfl (Nat.le_of_ble_eq_true rfl) ⟨by decide, by decide⟩ (by decide) ?_
  refine c_X10_isPoly (by omega) (fun w1 => ?_) (fun w1 => ?_)
  · show G _ _ _ _ _ _ _ _ _ _ _ _ _
    refine G_if_eq_f (pc := 4) 14 dX10_move_4 rfl (by decide) (by decide) ?_
    refine G_iload_n (pc := 7) dX10_move_7 rfl ?_
    refine G_callS (pc := 8) (d2 := 2) (mc2 := 0) (ms2 := 0) (As := [_]) dX10_move_8 kX10_isPoly lkX10_98 rfl rfl (Nat.le_of_ble_eq_true rfl) ⟨by decide, by decide⟩ (by decide) ?_
    refine c_X10_isPoly (by omega) (fun w8 => ?_) (fun w8 => ?_)
    · show G _ _ _ _ _ _ _ _ _ _ _ _ _
      refine G_if_ne_t (pc := 11) 17 dX10_move_11 rfl (by decide) (by decide) ?_
      refine S_aload_n (pc := 17) dX10_move_17 rfl ?_
      refine G_iload_n (pc := 18) dX10_move_18 rfl ?_
      refine G_bipush (pc := 19) dX10_move_19 rfl ?_
      refine S_callV (pc := 21) (ci := 10) (d2 := 1) (mc2 := 0) (ms2 := 0) (As := [_, _]) dX10_move_21 kX10_copy lkX10_90 (by assumption) rfl rfl rfl (Nat.le_of_ble_eq_true rfl) ⟨by decide, by decide⟩ (by decide) ?_
      refine c_X10_copy hW (by omega) (by omega) ?_
      show G _ _ _ _ _ _ _ _ _ _ _ _ _
      refine S_aload_n (pc := 24) dX10_move_24 rfl ?_
      refine G_bipush (pc := 25) dX10_move_25 rfl ?_
      refine S_aload_n (pc := 27) dX10_move_27 rfl ?_
      refine G_iload_n (pc := 28) dX10_move_28 rfl ?_
      refine S_callV (pc := 29) (ci := 10) (d2 := 1) (mc2 := 0) (ms2 := 0) (As := [_]) dX10_move_29 kX10_rest lkX10_102 (by assumption) rfl rfl rfl (Nat.le_of_ble_eq_true rfl) ⟨by decide, by decide⟩ (by decide) ?_
      refine c_X10_rest hW2 hr3 ?_
      show G _ _ _ _ _ _ _ _ _ _ _ _ _
      refine S_callV (pc := 32) (ci := 10) (d2 := 2) (mc2 := 0) (ms2 := 0) (As := [_, _]) dX10_move_32 kX10_moveRow lkX10_278 (by assumption) rfl rfl rfl (Nat.le_of_ble_eq_true rfl) ⟨by decide, by decide⟩ (by decide) ?_
      refine c_X10_moveRow hW2 (by omega) hem ?_
      rw [mg_set mg_sup, mset_mset]
      show G _ _ _ _ _ _ _ _ _ _ _ _ _
      refine S_aload_n (pc := 35) dX10_move_35 rfl ?_
      refine G_iload_n (pc := 36) dX10_move_36 rfl ?_
      refine G_bipush (pc := 37) dX10_move_37 rfl ?_
      refine S_callV (pc := 39) (ci := 10) (d2 := 2) (mc2 := 0) (ms2 := 0) (As := [_, _]) dX10_move_39 kX10_comes lkX10_109 (by assumption) rfl rfl rfl (Nat.le_of_ble_eq_true rfl) ⟨by decide, by decide⟩ (by decide) ?_
      refine c_X10_comes hW3 (by omega) (by omega) ?_
      rw [mg_set hs]
      show G _ _ _ _ _ _ _ _ _ _ _ _ _
      refine G_iret (pc := 42) dX10_move_42 rfl (by decide) ?_
      exact h1 (by omega) (by omega)
    · show G _ _ _ _ _ _ _ _ _ _ _ _ _
      refine G_if_ne_f (pc := 11) 17 dX10_move_11 rfl (by decide) (by decide) ?_
      refine G_bipush (pc := 14) dX10_move_14 rfl ?_
      refine G_iret (pc := 16) dX10_move_16 rfl (by decide) ?_
      exact h0 (by omega)
  · show G _ _ _ _ _ _ _ _ _ _ _ _ _
    refine G_if_eq_t (pc := 4) 14 dX10_move_4 rfl (by decide) (by decide) ?_
    refine G_bipush (pc := 14) dX10_move_14 rfl ?_
    refine G_iret (pc := 16) dX10_move_16 rfl (by decide) ?_
    exact h0 (by omega)
