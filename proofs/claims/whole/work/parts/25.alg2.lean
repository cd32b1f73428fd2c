/-! Algebra: addMultiple, pairs, multiplied -/
set_option maxRecDepth 100000 in
set_option maxHeartbeats 4000000 in
theorem l_X0_addMultiple {g : GC} {p : Int} {sh : SH} {S : SS} {n a N b M : Nat} {f by_ : Int} {Q : Option Value → GA → Nat → Prop} (hP : IsP p) (hrs : IsRests p sh S 12) (h13 : sh 13 = some (.inl 0)) (p0 : S.2.2 13 0 = some 12) (ha : Row p sh S a N) (hb : Row p sh S b M) (hab : b ≠ a) (hf : -7681 ≤ f ∧ f ≤ 7681) (hby : 0 ≤ by_) (hl : S.1 b 1 + by_ ≤ N)
    (hq : Q none (hp g sh (rput S a (padd p (rv S a) f (rv S b) by_) N)) n) : ∀ (m : Nat) (i : Int), i + m = S.1 b 1 → 0 ≤ i → G g mX0_addMultiple 2 0 0 3 [(5, .int (iI i)), (0, gr g 13), (1, gr g a), (2, .int (iI f)), (3, gr g b), (4, .int (iI by_))] [] (hp g sh (rput S a (seg by_ (by_ + i) (padd p (rv S a) f (rv S b) by_) (rv S a)) N)) n 0 0 Q := by
  intro m
  have hpb := hP.bd
  have hb0 := hb.1
  have hb1 := hb.1.1
  have ha1 := ha.1.1
  have hrs1 := hrs.1
  have hlb := plen_bd (rv S b) M
  have hN := ha.2.1
  have hM := hb.2.1
  have hLb := hb.2.2.1
  have hz : ∀ j : Int, ¬ (0 ≤ j ∧ j < S.1 b 1) → rv S b j = 0 := fun j hj => by
    by_cases h : j < 0
    · exact hb.2.2.2.1 j (Or.inl h)
    · exact Sup_len hb.2.2.2.1 (by omega)
  induction m with
  | zero =>
    intro i hi h0
    have eF : (rput S a (seg by_ (by_ + i) (padd p (rv S a) f (rv S b) by_) (rv S a)) N).1 b 1 = S.1 b 1 := rput_F (Or.inl hab)
    refine G_iload (pc := 3) dX0_addMultiple_3 rfl ?_
    refine S_aload_n (pc := 5) dX0_addMultiple_5 rfl ?_
    refine S_callV (pc := 6) (ci := 4) (d2 := 1) (mc2 := 0) (ms2 := 0) (As := []) dX0_addMultiple_6 kX4_length lkX0_45 (by assumption) rfl rfl rfl (Nat.le_of_ble_eq_true rfl) ⟨by decide, by decide⟩ (by decide) ?_
    refine c_X4_length (by assumption) ?_
    show G _ _ _ _ _ _ _ _ _ _ _ _ _
    rw [eF]
    refine G_icmp_ge_t (pc := 9) 55 dX0_addMultiple_9 rfl (by omega) (by omega) ?_
    refine G_vret (pc := 55) dX0_addMultiple_55 rfl (by decide) ?_
    refine Q_S ?_ hq
    rw [seg_all (fun j hj => padd_out ha.2.2.2.2 (hz _ (by omega)))]
  | succ m ih =>
    intro i hi h0
    have eF : (rput S a (seg by_ (by_ + i) (padd p (rv S a) f (rv S b) by_) (rv S a)) N).1 b 1 = S.1 b 1 := rput_F (Or.inl hab)
    have hr1 : Row p sh (rput S a (seg by_ (by_ + i) (padd p (rv S a) f (rv S b) by_) (rv S a)) N) a N := Row_put ha (seg_sup ha.2.2.2.1 hby (by omega)) (seg_red (padd_red (by omega)) ha.2.2.2.2)
    have hr2 : Row p sh (rput S a (seg by_ (by_ + i) (padd p (rv S a) f (rv S b) by_) (rv S a)) N) b M := Row_ne hb hab
    have hrs2 : IsRests p sh (rput S a (seg by_ (by_ + i) (padd p (rv S a) f (rv S b) by_) (rv S a)) N) 12 := IsRests_put hrs
    have e1 : rv (rput S a (seg by_ (by_ + i) (padd p (rv S a) f (rv S b) by_) (rv S a)) N) a (i + by_) = rv S a (i + by_) := by rw [rput_rv]; exact seg_out (by omega)
    have e2 : rv (rput S a (seg by_ (by_ + i) (padd p (rv S a) f (rv S b) by_) (rv S a)) N) b = rv S b := rput_ne hab
    have hx := ha.2.2.2.2 (i + by_)
    have hy := hb.2.2.2.2 i
    have hm : -58990080 ≤ f * rv S b i ∧ f * rv S b i ≤ 58990080 := by
      have h1 : f * rv S b i ≤ 7681 * rv S b i := Int.mul_le_mul_of_nonneg_right (by omega) hy.1
      have h2 : -7681 * rv S b i ≤ f * rv S b i := Int.mul_le_mul_of_nonneg_right (by omega) hy.1
      omega
    refine G_iload (pc := 3) dX0_addMultiple_3 rfl ?_
    refine S_aload_n (pc := 5) dX0_addMultiple_5 rfl ?_
    refine S_callV (pc := 6) (ci := 4) (d2 := 1) (mc2 := 0) (ms2 := 0) (As := []) dX0_addMultiple_6 kX4_length lkX0_45 (by assumption) rfl rfl rfl (Nat.le_of_ble_eq_true rfl) ⟨by decide, by decide⟩ (by decide) ?_
    refine c_X4_length (by assumption) ?_
    show G _ _ _ _ _ _ _ _ _ _ _ _ _
    rw [eF]
    refine G_icmp_ge_f (pc := 9) 55 dX0_addMultiple_9 rfl (by omega) (by omega) ?_
    refine S_aload_n (pc := 12) dX0_addMultiple_12 rfl ?_
    refine G_iload (pc := 13) dX0_addMultiple_13 rfl ?_
    refine G_iload (pc := 15) dX0_addMultiple_15 rfl ?_
    refine G_iadd (pc := 17) dX0_addMultiple_17 ?_
    refine S_aload_n (pc := 18) dX0_addMultiple_18 rfl ?_
    refine S_getR (pc := 19) dX0_addMultiple_19 fX0_41 (by assumption) rfl (by assumption) ?_
    refine S_aload_n (pc := 22) dX0_addMultiple_22 rfl ?_
    refine G_iload (pc := 23) dX0_addMultiple_23 rfl ?_
    refine G_iload (pc := 25) dX0_addMultiple_25 rfl ?_
    refine G_iadd (pc := 27) dX0_addMultiple_27 ?_
    refine S_callV (pc := 28) (ci := 4) (d2 := 1) (mc2 := 0) (ms2 := 0) (As := [_]) dX0_addMultiple_28 kX4_get lkX0_49 (by assumption) rfl rfl rfl (Nat.le_of_ble_eq_true rfl) ⟨by decide, by decide⟩ (by decide) ?_
    refine c_X4_get hr1 (by omega) ?_
    rw [e1]
    show G _ _ _ _ _ _ _ _ _ _ _ _ _
    refine G_i2l (pc := 31) dX0_addMultiple_31 (by omega) ?_
    refine G_iload_n (pc := 32) dX0_addMultiple_32 rfl ?_
    refine G_i2l (pc := 33) dX0_addMultiple_33 (by omega) ?_
    refine S_aload_n (pc := 34) dX0_addMultiple_34 rfl ?_
    refine G_iload (pc := 35) dX0_addMultiple_35 rfl ?_
    refine S_callV (pc := 37) (ci := 4) (d2 := 1) (mc2 := 0) (ms2 := 0) (As := [_]) dX0_addMultiple_37 kX4_get lkX0_49 (by assumption) rfl rfl rfl (Nat.le_of_ble_eq_true rfl) ⟨by decide, by decide⟩ (by decide) ?_
    refine c_X4_get hr2 (by omega) ?_
    rw [e2]
    show G _ _ _ _ _ _ _ _ _ _ _ _ _
    refine G_i2l (pc := 40) dX0_addMultiple_40 (by omega) ?_
    refine G_lmul (pc := 41) dX0_addMultiple_41 ?_
    refine G_ladd (pc := 42) dX0_addMultiple_42 ?_
    refine S_callV (pc := 43) (ci := 3) (d2 := 1) (mc2 := 0) (ms2 := 0) (As := [_]) dX0_addMultiple_43 kX3_rest lkX0_53 (by assumption) rfl rfl rfl (Nat.le_of_ble_eq_true rfl) ⟨by decide, by decide⟩ (by decide) ?_
    refine c_X3_rest hrs2 hP (by omega) ?_
    show G _ _ _ _ _ _ _ _ _ _ _ _ _
    refine S_callV (pc := 46) (ci := 4) (d2 := 1) (mc2 := 0) (ms2 := 0) (As := [_, _]) dX0_addMultiple_46 kX4_set lkX0_59 (by assumption) rfl rfl rfl (Nat.le_of_ble_eq_true rfl) ⟨by decide, by decide⟩ (by decide) ?_
    refine c_X4_set hr1 hpb.2 (by omega) (em_bd (by omega)) ?_
    show G _ _ _ _ _ _ _ _ _ _ _ _ _
    refine G_iinc (pc := 49) (ls' := [(5, _), (0, _), (1, _), (2, _), (3, _), (4, _)]) dX0_addMultiple_49 rfl (by decide) rfl ?_
    refine G_goto (pc := 52) 3 dX0_addMultiple_52 rfl ?_
    rw [rput_rput, rput_rv, show (rv S a (i + by_) + f * rv S b i) % p = padd p (rv S a) f (rv S b) by_ (by_ + i) by unfold padd; rw [show by_ + i - by_ = i by omega, Int.add_comm by_], Int.add_comm i by_, seg_S (by omega), show by_ + i + 1 = by_ + (i + 1) by omega]
    exact ih (i + 1) (by omega) (by omega)
set_option maxRecDepth 100000 in
set_option maxHeartbeats 4000000 in
theorem c_X0_addMultiple {g : GC} {p : Int} {sh : SH} {S : SS} {n a N b M : Nat} {f by_ : Int} {Q : Option Value → GA → Nat → Prop} (hP : IsP p) (hrs : IsRests p sh S 12) (h13 : sh 13 = some (.inl 0)) (p0 : S.2.2 13 0 = some 12) (ha : Row p sh S a N) (hb : Row p sh S b M) (hab : b ≠ a) (hf : -7681 ≤ f ∧ f ≤ 7681) (hby : 0 ≤ by_) (hl : S.1 b 1 + by_ ≤ N)
    (hq : Q none (hp g sh (rput S a (padd p (rv S a) f (rv S b) by_) N)) n) : GCall g mX0_addMultiple 2 0 0 [gr g 13, gr g a, .int (iI f), gr g b, .int (iI by_)] (hp g sh S) n Q := by
  have hlb := plen_bd (rv S b) M
  have hLb := hb.2.2.1
  refine GCall.of (by decide) (Nat.le_of_ble_eq_true rfl) (ls := [(0, _), (1, _), (2, _), (3, _), (4, _)]) rfl ?_
  refine G_iconst (pc := 0) dX0_addMultiple_0 ?_
  refine G_istore (pc := 1) (ls' := [(5, _), (0, _), (1, _), (2, _), (3, _), (4, _)]) dX0_addMultiple_1 (by decide) rfl ?_
  have := l_X0_addMultiple hP hrs h13 p0 ha hb hab hf hby hl hq (S.1 b 1).toNat 0 (by omega) (by omega)
  rwa [Int.add_zero, seg_0, Row_self ha] at this
set_option maxRecDepth 100000 in
set_option maxHeartbeats 4000000 in
theorem l_X0_pairs {g : GC} {p : Int} {sh : SH} {S : SS} {n a N b M : Nat} {i last : Int} {Q : Option Value → GA → Nat → Prop} (hP : IsP p) (ha : Row p sh S a N) (hb : Row p sh S b M) (hi : 0 ≤ i ∧ i ≤ 127) (hlast : last = if i ≤ S.1 a 1 - 1 then i else S.1 a 1 - 1)
    (hq : Q (some (.long (iL (conv (rv S a) (rv S b) i)))) (hp g sh S) n) : ∀ (m : Nat) (j : Int), last + 1 - j ≤ m → 0 ≤ j → j ≤ i + 1 → G g mX0_pairs 2 0 0 28 [(6, .int (iI j)), (5, .int (iI last)), (3, .long (iL (csum (fun j => rv S a j * rv S b (i - j)) j.toNat))), (0, gr g a), (1, gr g b), (2, .int (iI i))] [] (hp g sh S) n 0 0 Q := by
  intro m
  have hpb := hP.bd
  have hb1 := hb.1.1
  have ha1 := ha.1.1
  have hla := plen_bd (rv S a) N
  have hN := ha.2.1
  have hLa := ha.2.2.1
  have hend : ∀ j : Int, last < j → 0 ≤ j → j ≤ i + 1 → csum (fun j => rv S a j * rv S b (i - j)) j.toNat = conv (rv S a) (rv S b) i := fun j h1 h2 h3 => by
    unfold conv
    refine (csum_more (by omega) (fun j' q1 q2 => ?_)).symm
    show rv S a j' * rv S b (i - j') = 0
    rw [Sup_len ha.2.2.2.1 (j := j') (by
      by_cases hc : i ≤ S.1 a 1 - 1
      · rw [if_pos hc] at hlast; omega
      · rw [if_neg hc] at hlast; omega), Int.zero_mul]
  have hll : last ≤ 200 := by
    by_cases hc : i ≤ S.1 a 1 - 1
    · rw [if_pos hc] at hlast; omega
    · rw [if_neg hc] at hlast; omega
  have hll2 : -1 ≤ last := by
    by_cases hc : i ≤ S.1 a 1 - 1
    · rw [if_pos hc] at hlast; omega
    · rw [if_neg hc] at hlast; omega
  have hli : last ≤ i := by
    by_cases hc : i ≤ S.1 a 1 - 1
    · rw [if_pos hc] at hlast; omega
    · rw [if_neg hc] at hlast; omega
  induction m with
  | zero =>
    intro j hm h0 h1
    refine G_iload (pc := 28) dX0_pairs_28 rfl ?_
    refine G_iload (pc := 30) dX0_pairs_30 rfl ?_
    refine G_icmp_gt_t (pc := 32) 61 dX0_pairs_32 rfl (by omega) (by omega) ?_
    refine G_lload_n (pc := 61) dX0_pairs_61 rfl ?_
    refine G_lret (pc := 62) dX0_pairs_62 rfl (by decide) ?_
    exact Q_l (hend j (by omega) h0 h1) hq
  | succ m ih =>
    intro j hm h0 h1
    have hx := ha.2.2.2.2 j
    have hy := hb.2.2.2.2 (i - j)
    have e1 : csum (fun j => rv S a j * rv S b (i - j)) j.toNat + rv S a j * rv S b (i - j) = csum (fun j => rv S a j * rv S b (i - j)) (j + 1).toNat := by
      rw [show (j + 1).toNat = j.toNat + 1 by omega]
      show _ = csum _ j.toNat + rv S a (j.toNat : Int) * rv S b (i - (j.toNat : Int))
      rw [show (j.toNat : Int) = j by omega]
    refine G_iload (pc := 28) dX0_pairs_28 rfl ?_
    refine G_iload (pc := 30) dX0_pairs_30 rfl ?_
    refine G_icmp_gt (pc := 32) 61 dX0_pairs_32 rfl (by omega) (fun c32 => ?_) (fun c32 => ?_)
    · skip
      refine G_lload_n (pc := 61) dX0_pairs_61 rfl ?_
      refine G_lret (pc := 62) dX0_pairs_62 rfl (by decide) ?_
      exact Q_l (hend j (by omega) h0 h1) hq
    · skip
      refine G_lload_n (pc := 35) dX0_pairs_35 rfl ?_
      refine S_aload_n (pc := 36) dX0_pairs_36 rfl ?_
      refine G_iload (pc := 37) dX0_pairs_37 rfl ?_
      refine S_callV (pc := 39) (ci := 4) (d2 := 1) (mc2 := 0) (ms2 := 0) (As := [_]) dX0_pairs_39 kX4_get lkX0_49 (by assumption) rfl rfl rfl (Nat.le_of_ble_eq_true rfl) ⟨by decide, by decide⟩ (by decide) ?_
      refine c_X4_get ha (by omega) ?_
      show G _ _ _ _ _ _ _ _ _ _ _ _ _
      refine G_i2l (pc := 42) dX0_pairs_42 (by omega) ?_
      refine S_aload_n (pc := 43) dX0_pairs_43 rfl ?_
      refine G_iload_n (pc := 44) dX0_pairs_44 rfl ?_
      refine G_iload (pc := 45) dX0_pairs_45 rfl ?_
      refine G_isub (pc := 47) dX0_pairs_47 ?_
      refine S_callV (pc := 48) (ci := 4) (d2 := 1) (mc2 := 0) (ms2 := 0) (As := [_]) dX0_pairs_48 kX4_get lkX0_49 (by assumption) rfl rfl rfl (Nat.le_of_ble_eq_true rfl) ⟨by decide, by decide⟩ (by decide) ?_
      refine c_X4_get hb (by omega) ?_
      show G _ _ _ _ _ _ _ _ _ _ _ _ _
      refine G_i2l (pc := 51) dX0_pairs_51 (by omega) ?_
      refine G_lmul (pc := 52) dX0_pairs_52 ?_
      refine G_ladd (pc := 53) dX0_pairs_53 ?_
      rw [e1]
      refine G_lstore_n (pc := 54) (ls' := [(3, _), (6, _), (5, _), (0, _), (1, _), (2, _)]) dX0_pairs_54 (by decide) rfl ?_
      refine G_iinc (pc := 55) (ls' := [(6, _), (3, _), (5, _), (0, _), (1, _), (2, _)]) dX0_pairs_55 rfl (by decide) rfl ?_
      refine G_goto (pc := 58) 28 dX0_pairs_58 rfl ?_
      refine G_ls (ls' := [(6, _), (5, _), (3, _), (0, _), (1, _), (2, _)]) (lsub_c rfl (lsub_c rfl (lsub_c rfl (lsub_c rfl (lsub_c rfl (lsub_c rfl lsub_n)))))) ?_
      exact ih (j + 1) (by omega) (by omega) (by omega)
set_option maxRecDepth 100000 in
set_option maxHeartbeats 4000000 in
theorem c_X0_pairs {g : GC} {p : Int} {sh : SH} {S : SS} {n a N b M : Nat} {i : Int} {Q : Option Value → GA → Nat → Prop} (hP : IsP p) (ha : Row p sh S a N) (hb : Row p sh S b M) (hi : 0 ≤ i ∧ i ≤ 127)
    (hq : Q (some (.long (iL (conv (rv S a) (rv S b) i)))) (hp g sh S) n) : GCall g mX0_pairs 2 0 0 [gr g a, gr g b, .int (iI i)] (hp g sh S) n Q := by
  have ha0 := ha.1
  have hb0 := hb.1
  have ha1 := ha.1.1
  have hb1 := hb.1.1
  have hla := plen_bd (rv S a) N
  have hlb := plen_bd (rv S b) M
  have hN := ha.2.1
  have hM := hb.2.1
  have hLa := ha.2.2.1
  have hLb := hb.2.2.1
  have e0 : csum (fun j => rv S a j * rv S b (i - j)) (if i - S.1 b 1 + 1 ≤ 0 then 0 else i - S.1 b 1 + 1).toNat = 0 := by
    refine csum_zero (fun j h1 h2 => ?_)
    show rv S a j * rv S b (i - j) = 0
    rw [Sup_len hb.2.2.2.1 (j := i - j) (by
      by_cases hc : i - S.1 b 1 + 1 ≤ 0
      · rw [if_pos hc] at h2; omega
      · rw [if_neg hc] at h2; omega), Int.mul_zero]
  have hj : 0 ≤ (if i - S.1 b 1 + 1 ≤ 0 then 0 else i - S.1 b 1 + 1) ∧ (if i - S.1 b 1 + 1 ≤ 0 then 0 else i - S.1 b 1 + 1) ≤ i + 1 := by
    by_cases hc : i - S.1 b 1 + 1 ≤ 0
    · rw [if_pos hc]; omega
    · rw [if_neg hc]; omega
  refine GCall.of (by decide) (Nat.le_of_ble_eq_true rfl) (ls := [(0, _), (1, _), (2, _)]) rfl ?_
  refine G_lconst (pc := 0) (v := 0) dX0_pairs_0 rfl ?_
  refine G_lstore_n (pc := 1) (ls' := [(3, _), (0, _), (1, _), (2, _)]) dX0_pairs_1 (by decide) rfl ?_
  refine G_iload_n (pc := 2) dX0_pairs_2 rfl ?_
  refine S_aload_n (pc := 3) dX0_pairs_3 rfl ?_
  refine S_callV (pc := 4) (ci := 4) (d2 := 1) (mc2 := 0) (ms2 := 0) (As := []) dX0_pairs_4 kX4_length lkX0_45 (by assumption) rfl rfl rfl (Nat.le_of_ble_eq_true rfl) ⟨by decide, by decide⟩ (by decide) ?_
  refine c_X4_length (by assumption) ?_
  show G _ _ _ _ _ _ _ _ _ _ _ _ _
  refine G_iconst (pc := 7) dX0_pairs_7 ?_
  refine G_isub (pc := 8) dX0_pairs_8 ?_
  refine G_callS (pc := 9) (d2 := 1) (mc2 := 0) (ms2 := 0) (As := [_, _]) dX0_pairs_9 kJ9_min_7cf53 lkX0_70 rfl rfl (Nat.le_of_ble_eq_true rfl) ⟨by decide, by decide⟩ (by decide) ?_
  refine c_J9_min (by omega) ?_
  show G _ _ _ _ _ _ _ _ _ _ _ _ _
  refine G_istore (pc := 12) (ls' := [(5, _), (3, _), (0, _), (1, _), (2, _)]) dX0_pairs_12 (by decide) rfl ?_
  refine G_iconst (pc := 14) dX0_pairs_14 ?_
  refine G_iload_n (pc := 15) dX0_pairs_15 rfl ?_
  refine S_aload_n (pc := 16) dX0_pairs_16 rfl ?_
  refine S_callV (pc := 17) (ci := 4) (d2 := 1) (mc2 := 0) (ms2 := 0) (As := []) dX0_pairs_17 kX4_length lkX0_45 (by assumption) rfl rfl rfl (Nat.le_of_ble_eq_true rfl) ⟨by decide, by decide⟩ (by decide) ?_
  refine c_X4_length (by assumption) ?_
  show G _ _ _ _ _ _ _ _ _ _ _ _ _
  refine G_isub (pc := 20) dX0_pairs_20 ?_
  refine G_iconst (pc := 21) dX0_pairs_21 ?_
  refine G_iadd (pc := 22) dX0_pairs_22 ?_
  refine G_callS (pc := 23) (d2 := 1) (mc2 := 0) (ms2 := 0) (As := [_, _]) dX0_pairs_23 kJ9_max_7cf53 lkX0_76 rfl rfl (Nat.le_of_ble_eq_true rfl) ⟨by decide, by decide⟩ (by decide) ?_
  refine c_J9_max (by omega) ?_
  show G _ _ _ _ _ _ _ _ _ _ _ _ _
  refine G_istore (pc := 26) (ls' := [(6, _), (5, _), (3, _), (0, _), (1, _), (2, _)]) dX0_pairs_26 (by decide) rfl ?_
  have := l_X0_pairs hP ha hb hi rfl hq ((if i ≤ S.1 a 1 - 1 then i else S.1 a 1 - 1) + 1).toNat _ (by omega) hj.1 hj.2
  rwa [e0] at this
