/-! the Model: costOf, times, cost -/
def mx2 (n m : Int) : Int := if m < n then n else m
/-- COUNT of a product; -4 for FULL -/
def ctO (kd cut n m sm : Int) : Int := if n = 0 ∨ m = 0 then 0 else if kd = 0 then n * m else if kd = 3 ∨ kd = 5 then (if 5 < pwk (n + m - 1) then -4 else (if kd = 5 ∧ sm = 1 then 2 else 3) * pwk (n + m - 1) * 2 ^ (pwk (n + m - 1)).toNat / 2 + 2 ^ (pwk (n + m - 1)).toNat) else if kd = 1 then (lyO kd cut pz pz 33).1 (mx2 n m) else (lyO kd cut pz pz 33).2 (mx2 n m)
theorem ly_all : (List.range 17).all (fun c => (List.range 33).all (fun s => decide (c = 0 ∨ (0 ≤ (lyO 1 (c : Int) pz pz 33).1 (s : Int) ∧ (lyO 1 (c : Int) pz pz 33).1 (s : Int) ≤ 5000 ∧ 0 ≤ (lyO 2 (c : Int) pz pz 33).2 (s : Int) ∧ (lyO 2 (c : Int) pz pz 33).2 (s : Int) ≤ 5000 ∧ 0 ≤ (lyO 4 (c : Int) pz pz 33).2 (s : Int) ∧ (lyO 4 (c : Int) pz pz 33).2 (s : Int) ≤ 5000)))) = true := by decide +kernel
theorem ly_bd {c s : Int} (hc : 1 ≤ c ∧ c ≤ 16) (hs : 0 ≤ s ∧ s ≤ 32) : (0 ≤ (lyO 1 c pz pz 33).1 s ∧ (lyO 1 c pz pz 33).1 s ≤ 5000) ∧ (0 ≤ (lyO 2 c pz pz 33).2 s ∧ (lyO 2 c pz pz 33).2 s ≤ 5000) ∧ (0 ≤ (lyO 4 c pz pz 33).2 s ∧ (lyO 4 c pz pz 33).2 s ≤ 5000) := by
  obtain ⟨a, rfl⟩ : ∃ a : Nat, c = a := ⟨c.toNat, by omega⟩
  obtain ⟨b, rfl⟩ : ∃ b : Nat, s = b := ⟨s.toNat, by omega⟩
  have h := of_decide_eq_true (List.all_eq_true.mp (List.all_eq_true.mp ly_all a (List.mem_range.mpr (by omega))) b (List.mem_range.mpr (by omega)))
  rcases h with h | h
  · omega
  · exact ⟨⟨h.1, h.2.1⟩, ⟨h.2.2.1, h.2.2.2.1⟩, ⟨h.2.2.2.2.1, h.2.2.2.2.2⟩⟩
theorem ctT_bd {tw k : Int} (ht : tw = 2 ∨ tw = 3) (hk : 0 ≤ k ∧ k ≤ 5) : 0 ≤ tw * k * 2 ^ k.toNat ∧ tw * k * 2 ^ k.toNat ≤ 480 := by
  have hk2 : k = 0 ∨ k = 1 ∨ k = 2 ∨ k = 3 ∨ k = 4 ∨ k = 5 := by omega
  rcases ht with e | e <;> rcases hk2 with f | f | f | f | f | f <;> rw [e, f] <;> decide
theorem ctO_bd {kd cut n m sm : Int} (hk : 0 ≤ kd ∧ kd ≤ 5) (hc : 1 ≤ cut ∧ cut ≤ 16) (hn : 0 ≤ n ∧ n ≤ 32) (hm : 0 ≤ m ∧ m ≤ 32) : -4 ≤ ctO kd cut n m sm ∧ ctO kd cut n m sm ≤ 5000 ∧ (ctO kd cut n m sm < 0 → ctO kd cut n m sm = -4) := by
  unfold ctO
  have hs : 0 ≤ mx2 n m ∧ mx2 n m ≤ 32 := by unfold mx2; split <;> omega
  obtain ⟨b1, b2, b4⟩ := ly_bd hc hs
  have hpb := pwk_bd (n := n + m - 1)
  have hmm : 0 ≤ n * m ∧ n * m ≤ 32 * 32 := ⟨Int.mul_nonneg hn.1 hm.1, Int.mul_le_mul hn.2 hm.2 hm.1 (by omega)⟩
  by_cases c1 : n = 0 ∨ m = 0
  · rw [if_pos c1]; omega
  · rw [if_neg c1]
    by_cases c2 : kd = 0
    · rw [if_pos c2]; omega
    · rw [if_neg c2]
      by_cases c3 : kd = 3 ∨ kd = 5
      · rw [if_pos c3]
        by_cases c4 : 5 < pwk (n + m - 1)
        · rw [if_pos c4]; omega
        · rw [if_neg c4]
          have h2 := pw6 (k := pwk (n + m - 1)) (by omega)
          by_cases c5 : kd = 5 ∧ sm = 1
          · rw [if_pos c5]
            have := ctT_bd (tw := 2) (k := pwk (n + m - 1)) (Or.inl rfl) (by omega)
            omega
          · rw [if_neg c5]
            have := ctT_bd (tw := 3) (k := pwk (n + m - 1)) (Or.inr rfl) (by omega)
            omega
      · rw [if_neg c3]
        have : kd = 1 ∨ kd = 2 ∨ kd = 4 := by omega
        rcases this with e | e | e
        · rw [if_pos e, e]; omega
        · rw [if_neg (by omega), e]; omega
        · rw [if_neg (by omega), e]; omega
set_option maxRecDepth 100000 in
set_option maxHeartbeats 4000000 in
theorem c_X10_costOf {g : GC} {p w a b wy kd cut : Int} {sh : SH} {S : SS} {n : Nat} {Q : Option Value → GA → Nat → Prop} (hW : MdW p sh S) (hV : MvW sh S w) (hL : MlW sh S) (ha : 0 ≤ a ∧ a < 8) (hb : 0 ≤ b ∧ b < 8) (sa : Sup (mg S a) 32) (sb : Sup (mg S b) 32) (hwy : 0 ≤ wy ∧ wy < w) (hkd : S.2.1 98 wy = kd) (hcut : S.2.1 99 wy = cut) (hc : 1 ≤ cut ∧ cut ≤ 16)
    (hq : ∀ S' : SS, MScr S S' → MdW p sh S' → S'.1 = S.1 → S'.2.1 97 = S.2.1 97 → Q (some (.long (iL (ctO kd cut (plen (mg S a) 80) (plen (mg S b) 80) (smf (mg S a) (mg S b)))))) (hp g sh S') n) : GCall g mX10_costOf 2 0 0 [gr g 96, .int (iI a), .int (iI b), .int (iI wy)] (hp g sh S) n Q := by
  have hV' := hV
  obtain ⟨h96, q4, q5, h98, h99, hw, hwb, r98, r99⟩ := hV'
  have hk := r98 wy
  rw [hkd] at hk
  have hla := plen_bd (mg S a) 80
  have hlb := plen_bd (mg S b) 80
  have hla2 : plen (mg S a) 80 ≤ 32 := plen_le (by omega) (fun j h1 _ => sa j (by omega))
  have hlb2 : plen (mg S b) 80 ≤ 32 := plen_le (by omega) (fun j h1 _ => sb j (by omega))
  have hs0 := hq S MScr_rf hW rfl rfl
  refine GCall.of (by decide) (Nat.le_of_ble_eq_true rfl) (ls := [(0, _), (1, _), (2, _), (3, _)]) rfl ?_
  have K42 : ¬ (plen (mg S a) 80 = 0 ∨ plen (mg S b) 80 = 0) → G g mX10_costOf 2 0 0 42 [(6, .int (iI (mx2 (plen (mg S a) 80) (plen (mg S b) 80)))), (5, .int (iI (plen (mg S b) 80))), (4, .int (iI (plen (mg S a) 80))), (0, gr g 96), (1, .int (iI a)), (2, .int (iI b)), (3, .int (iI wy))] [] (hp g sh S) n 0 0 Q := by
    intro hz
    have hs1 := hs0
    unfold ctO at hs1
    rw [if_neg hz] at hs1
    by_cases c0 : kd = 0
    · rw [if_pos c0] at hs1
      refine S_aload_n (pc := 42) dX10_costOf_42 rfl ?_
      refine S_getR (pc := 43) dX10_costOf_43 fX10_17 (by assumption) rfl (by assumption) ?_
      refine G_iload_n (pc := 46) dX10_costOf_46 rfl ?_
      refine S_iald (pc := 47) dX10_costOf_47 (by assumption) (by omega) ?_
      rw [hkd]
      refine G_if_ne_f (pc := 48) 59 dX10_costOf_48 rfl (by omega) (by omega) ?_
      refine G_iload (pc := 51) dX10_costOf_51 rfl ?_
      refine G_i2l (pc := 53) dX10_costOf_53 (by omega) ?_
      refine G_iload (pc := 54) dX10_costOf_54 rfl ?_
      refine G_i2l (pc := 56) dX10_costOf_56 (by omega) ?_
      refine G_lmul (pc := 57) dX10_costOf_57 ?_
      refine G_lret (pc := 58) dX10_costOf_58 rfl (by decide) ?_
      exact hs1
    · rw [if_neg c0] at hs1
      by_cases c3 : kd = 3 ∨ kd = 5
      · rw [if_pos c3] at hs1
        have hpk := pwk_bd (n := plen (mg S a) 80 + plen (mg S b) 80 - 1)
        have hfin : G g mX10_costOf 2 0 0 79 [(6, .int (iI (mx2 (plen (mg S a) 80) (plen (mg S b) 80)))), (5, .int (iI (plen (mg S b) 80))), (4, .int (iI (plen (mg S a) 80))), (0, gr g 96), (1, .int (iI a)), (2, .int (iI b)), (3, .int (iI wy))] [] (hp g sh S) n 0 0 Q := by
          by_cases c5 : 5 < pwk (plen (mg S a) 80 + plen (mg S b) 80 - 1)
          · rw [if_pos c5] at hs1
            refine G_iload (pc := 79) dX10_costOf_79 rfl ?_
            refine G_iload (pc := 81) dX10_costOf_81 rfl ?_
            refine G_iadd (pc := 83) dX10_costOf_83 ?_
            refine G_iconst (pc := 84) dX10_costOf_84 ?_
            refine G_isub (pc := 85) dX10_costOf_85 ?_
            refine G_callS (pc := 86) (d2 := 1) (mc2 := 0) (ms2 := 0) (As := [_]) dX10_costOf_86 kX10_powerFor lkX10_119 rfl rfl (Nat.le_of_ble_eq_true rfl) ⟨by decide, by decide⟩ (by decide) ?_
            refine c_X10_powerFor (by omega) ?_
            show G _ _ _ _ _ _ _ _ _ _ _ _ _
            refine G_istore (pc := 89) (ls' := [(7, _), (6, _), (5, _), (4, _), (0, _), (1, _), (2, _), (3, _)]) dX10_costOf_89 (by decide) rfl ?_
            refine G_iload (pc := 91) dX10_costOf_91 rfl ?_
            refine G_iconst (pc := 93) dX10_costOf_93 ?_
            refine G_icmp_le_f (pc := 94) 101 dX10_costOf_94 rfl (by omega) (by omega) ?_
            refine G_ldc2 (pc := 97) (z := -4) dX10_costOf_97 coX10_122 rfl ?_
            refine G_lret (pc := 100) dX10_costOf_100 rfl (by decide) ?_
            exact hs1
          · rw [if_neg c5] at hs1
            have hsm := smf_bd (A := mg S a) (B := mg S b)
            have hnar : narrow .boolean (.int (iI (smf (mg S a) (mg S b)))) = .int (iI (smf (mg S a) (mg S b))) := by rcases hsm with e | e <;> rw [e] <;> first | exact nar_z0 | exact nar_z1
            have hT2 := ctT_bd (tw := 2) (k := pwk (plen (mg S a) 80 + plen (mg S b) 80 - 1)) (Or.inl rfl) (by omega)
            have hT3 := ctT_bd (tw := 3) (k := pwk (plen (mg S a) 80 + plen (mg S b) 80 - 1)) (Or.inr rfl) (by omega)
            refine G_iload (pc := 79) dX10_costOf_79 rfl ?_
            refine G_iload (pc := 81) dX10_costOf_81 rfl ?_
            refine G_iadd (pc := 83) dX10_costOf_83 ?_
            refine G_iconst (pc := 84) dX10_costOf_84 ?_
            refine G_isub (pc := 85) dX10_costOf_85 ?_
            refine G_callS (pc := 86) (d2 := 1) (mc2 := 0) (ms2 := 0) (As := [_]) dX10_costOf_86 kX10_powerFor lkX10_119 rfl rfl (Nat.le_of_ble_eq_true rfl) ⟨by decide, by decide⟩ (by decide) ?_
            refine c_X10_powerFor (by omega) ?_
            show G _ _ _ _ _ _ _ _ _ _ _ _ _
            refine G_istore (pc := 89) (ls' := [(7, _), (6, _), (5, _), (4, _), (0, _), (1, _), (2, _), (3, _)]) dX10_costOf_89 (by decide) rfl ?_
            refine G_iload (pc := 91) dX10_costOf_91 rfl ?_
            refine G_iconst (pc := 93) dX10_costOf_93 ?_
            refine G_icmp_le_t (pc := 94) 101 dX10_costOf_94 rfl (by omega) (by omega) ?_
            refine G_lconst (pc := 101) (v := 1) dX10_costOf_101 rfl ?_
            refine G_iload (pc := 102) dX10_costOf_102 rfl ?_
            refine G_lshl (pc := 104) dX10_costOf_104 (shl1L (by omega)) ?_
            refine G_lstore (pc := 105) (ls' := [(8, _), (7, _), (6, _), (5, _), (4, _), (0, _), (1, _), (2, _), (3, _)]) dX10_costOf_105 (by decide) rfl ?_
            refine S_aload_n (pc := 107) dX10_costOf_107 rfl ?_
            refine S_getR (pc := 108) dX10_costOf_108 fX10_17 (by assumption) rfl (by assumption) ?_
            refine G_iload_n (pc := 111) dX10_costOf_111 rfl ?_
            refine S_iald (pc := 112) dX10_costOf_112 (by assumption) (by omega) ?_
            rw [hkd]
            refine G_iconst (pc := 113) dX10_costOf_113 ?_
            refine G_icmp_ne (pc := 114) 132 dX10_costOf_114 rfl (by omega) (fun c114 => ?_) (fun c114 => ?_)
            · skip
              refine G_ldc2 (pc := 132) (z := 3) dX10_costOf_132 coX10_128 rfl ?_
              refine G_iload (pc := 135) dX10_costOf_135 rfl ?_
              refine G_i2l (pc := 137) dX10_costOf_137 (by omega) ?_
              refine G_lmul (pc := 138) dX10_costOf_138 ?_
              refine G_lload (pc := 139) dX10_costOf_139 rfl ?_
              refine G_lmul (pc := 141) dX10_costOf_141 ?_
              refine G_ldc2 (pc := 142) (z := 2) dX10_costOf_142 coX10_115 rfl ?_
              refine G_ldiv (pc := 145) dX10_costOf_145 (by omega) ?_
              rw [Int.tdiv_eq_ediv_of_nonneg (by omega)]
              refine G_lload (pc := 146) dX10_costOf_146 rfl ?_
              refine G_ladd (pc := 148) dX10_costOf_148 ?_
              refine G_lret (pc := 149) dX10_costOf_149 rfl (by decide) ?_
              first | (rw [if_pos (by omega)] at hs1; exact hs1) | (rw [if_neg (by omega)] at hs1; exact hs1)
            · skip
              refine S_aload_n (pc := 117) dX10_costOf_117 rfl ?_
              refine G_iload_n (pc := 118) dX10_costOf_118 rfl ?_
              refine G_iload_n (pc := 119) dX10_costOf_119 rfl ?_
              refine S_callV (pc := 120) (ci := 10) (d2 := 1) (mc2 := 0) (ms2 := 0) (As := [_, _]) dX10_costOf_120 kX10_same lkX10_124 (by assumption) rfl rfl rfl (Nat.le_of_ble_eq_true rfl) ⟨by decide, by decide⟩ (by decide) ?_
              refine c_X10_same hW ha hb sa sb ?_
              show G _ _ _ _ _ _ _ _ _ _ _ _ _
              refine G_if_eq (pc := 123) 132 dX10_costOf_123 rfl (by omega) (fun c123 => ?_) (fun c123 => ?_)
              · skip
                refine G_ldc2 (pc := 132) (z := 3) dX10_costOf_132 coX10_128 rfl ?_
                refine G_iload (pc := 135) dX10_costOf_135 rfl ?_
                refine G_i2l (pc := 137) dX10_costOf_137 (by omega) ?_
                refine G_lmul (pc := 138) dX10_costOf_138 ?_
                refine G_lload (pc := 139) dX10_costOf_139 rfl ?_
                refine G_lmul (pc := 141) dX10_costOf_141 ?_
                refine G_ldc2 (pc := 142) (z := 2) dX10_costOf_142 coX10_115 rfl ?_
                refine G_ldiv (pc := 145) dX10_costOf_145 (by omega) ?_
                rw [Int.tdiv_eq_ediv_of_nonneg (by omega)]
                refine G_lload (pc := 146) dX10_costOf_146 rfl ?_
                refine G_ladd (pc := 148) dX10_costOf_148 ?_
                refine G_lret (pc := 149) dX10_costOf_149 rfl (by decide) ?_
                first | (rw [if_pos (by omega)] at hs1; exact hs1) | (rw [if_neg (by omega)] at hs1; exact hs1)
              · skip
                refine G_ldc2 (pc := 126) (z := 2) dX10_costOf_126 coX10_115 rfl ?_
                refine G_goto (pc := 129) 135 dX10_costOf_129 rfl ?_
                refine G_iload (pc := 135) dX10_costOf_135 rfl ?_
                refine G_i2l (pc := 137) dX10_costOf_137 (by omega) ?_
                refine G_lmul (pc := 138) dX10_costOf_138 ?_
                refine G_lload (pc := 139) dX10_costOf_139 rfl ?_
                refine G_lmul (pc := 141) dX10_costOf_141 ?_
                refine G_ldc2 (pc := 142) (z := 2) dX10_costOf_142 coX10_115 rfl ?_
                refine G_ldiv (pc := 145) dX10_costOf_145 (by omega) ?_
                rw [Int.tdiv_eq_ediv_of_nonneg (by omega)]
                refine G_lload (pc := 146) dX10_costOf_146 rfl ?_
                refine G_ladd (pc := 148) dX10_costOf_148 ?_
                refine G_lret (pc := 149) dX10_costOf_149 rfl (by decide) ?_
                first | (rw [if_pos (by omega)] at hs1; exact hs1) | (rw [if_neg (by omega)] at hs1; exact hs1)
        by_cases c4 : kd = 3
        · skip
          refine S_aload_n (pc := 42) dX10_costOf_42 rfl ?_
          refine S_getR (pc := 43) dX10_costOf_43 fX10_17 (by assumption) rfl (by assumption) ?_
          refine G_iload_n (pc := 46) dX10_costOf_46 rfl ?_
          refine S_iald (pc := 47) dX10_costOf_47 (by assumption) (by omega) ?_
          rw [hkd]
          refine G_if_ne_t (pc := 48) 59 dX10_costOf_48 rfl (by omega) (by omega) ?_
          refine S_aload_n (pc := 59) dX10_costOf_59 rfl ?_
          refine S_getR (pc := 60) dX10_costOf_60 fX10_17 (by assumption) rfl (by assumption) ?_
          refine G_iload_n (pc := 63) dX10_costOf_63 rfl ?_
          refine S_iald (pc := 64) dX10_costOf_64 (by assumption) (by omega) ?_
          rw [hkd]
          refine G_iconst (pc := 65) dX10_costOf_65 ?_
          refine G_icmp_eq_t (pc := 66) 79 dX10_costOf_66 rfl (by omega) (by omega) ?_
          exact hfin
        · skip
          refine S_aload_n (pc := 42) dX10_costOf_42 rfl ?_
          refine S_getR (pc := 43) dX10_costOf_43 fX10_17 (by assumption) rfl (by assumption) ?_
          refine G_iload_n (pc := 46) dX10_costOf_46 rfl ?_
          refine S_iald (pc := 47) dX10_costOf_47 (by assumption) (by omega) ?_
          rw [hkd]
          refine G_if_ne_t (pc := 48) 59 dX10_costOf_48 rfl (by omega) (by omega) ?_
          refine S_aload_n (pc := 59) dX10_costOf_59 rfl ?_
          refine S_getR (pc := 60) dX10_costOf_60 fX10_17 (by assumption) rfl (by assumption) ?_
          refine G_iload_n (pc := 63) dX10_costOf_63 rfl ?_
          refine S_iald (pc := 64) dX10_costOf_64 (by assumption) (by omega) ?_
          rw [hkd]
          refine G_iconst (pc := 65) dX10_costOf_65 ?_
          refine G_icmp_eq_f (pc := 66) 79 dX10_costOf_66 rfl (by omega) (by omega) ?_
          refine S_aload_n (pc := 69) dX10_costOf_69 rfl ?_
          refine S_getR (pc := 70) dX10_costOf_70 fX10_17 (by assumption) rfl (by assumption) ?_
          refine G_iload_n (pc := 73) dX10_costOf_73 rfl ?_
          refine S_iald (pc := 74) dX10_costOf_74 (by assumption) (by omega) ?_
          rw [hkd]
          refine G_iconst (pc := 75) dX10_costOf_75 ?_
          refine G_icmp_ne_f (pc := 76) 150 dX10_costOf_76 rfl (by omega) (by omega) ?_
          exact hfin
      · rw [if_neg c3] at hs1
        have hmx : 0 ≤ mx2 (plen (mg S a) 80) (plen (mg S b) 80) ∧ mx2 (plen (mg S a) 80) (plen (mg S b) 80) ≤ 32 := by unfold mx2; split <;> omega
        have K155 : ∀ S' : SS, MScr S S' → S'.2.1 97 = S.2.1 97 → S'.1 = S.1 → S'.2.1 100 = (lyO kd cut (S.2.1 100) (S.2.1 101) 33).1 → S'.2.1 101 = (lyO kd cut (S.2.1 100) (S.2.1 101) 33).2 → G g mX10_costOf 2 0 0 155 [(6, .int (iI (mx2 (plen (mg S a) 80) (plen (mg S b) 80)))), (5, .int (iI (plen (mg S b) 80))), (4, .int (iI (plen (mg S a) 80))), (0, gr g 96), (1, .int (iI a)), (2, .int (iI b)), (3, .int (iI wy))] [] (hp g sh S') n 0 0 Q := by
          intro S' g1 g2 g3 g4 g5
          have W2 : MdW p sh S' := by
            obtain ⟨hP, h96, hp1, p2, h97, hred⟩ := hW
            exact ⟨hP, h96, by rw [g3]; exact hp1, by rw [g1.2.1]; exact p2, h97, by rw [g2]; exact hred⟩
          have hs2 := hq S' g1 W2 g3 g2
          unfold ctO at hs2
          rw [if_neg hz, if_neg c0, if_neg c3] at hs2
          obtain ⟨i1, i2⟩ := lyO_ind (kd := kd) (X0 := S.2.1 100) (Y0 := S.2.1 101) (X1 := pz) (Y1 := pz) hc.1 33 _ hmx.1 (by omega)
          have hV2 := MvW_scr g1 hV
          obtain ⟨-, q4', -, -, -, -, -, -, -⟩ := hV2
          have hL2 := MlW_scr g1 hL
          obtain ⟨q7, q8, h100, h101⟩ := hL2
          have ek : S'.2.1 98 wy = kd := by rw [g1.2.2.1 98 (by decide)]; exact hkd
          refine S_aload_n (pc := 155) dX10_costOf_155 rfl ?_
          refine S_getR (pc := 156) dX10_costOf_156 fX10_17 (by assumption) rfl (by assumption) ?_
          refine G_iload_n (pc := 159) dX10_costOf_159 rfl ?_
          refine S_iald (pc := 160) dX10_costOf_160 (by assumption) (by omega) ?_
          rw [ek]
          refine G_iconst (pc := 161) dX10_costOf_161 ?_
          refine G_icmp_ne (pc := 162) 175 dX10_costOf_162 rfl (by omega) (fun c162 => ?_) (fun c162 => ?_)
          · skip
            refine S_aload_n (pc := 175) dX10_costOf_175 rfl ?_
            refine S_getR (pc := 176) dX10_costOf_176 fX10_27 (by assumption) rfl (by assumption) ?_
            refine G_iload (pc := 179) dX10_costOf_179 rfl ?_
            refine S_lald (pc := 181) dX10_costOf_181 (by assumption) (by omega) ?_
            rw [g5, i2]
            refine G_lret (pc := 182) dX10_costOf_182 rfl (by decide) ?_
            first | (rw [if_pos (by omega)] at hs2; exact hs2) | (rw [if_neg (by omega)] at hs2; exact hs2)
          · skip
            refine S_aload_n (pc := 165) dX10_costOf_165 rfl ?_
            refine S_getR (pc := 166) dX10_costOf_166 fX10_23 (by assumption) rfl (by assumption) ?_
            refine G_iload (pc := 169) dX10_costOf_169 rfl ?_
            refine S_lald (pc := 171) dX10_costOf_171 (by assumption) (by omega) ?_
            rw [g4, i1]
            refine G_goto (pc := 172) 182 dX10_costOf_172 rfl ?_
            refine G_lret (pc := 182) dX10_costOf_182 rfl (by decide) ?_
            first | (rw [if_pos (by omega)] at hs2; exact hs2) | (rw [if_neg (by omega)] at hs2; exact hs2)
        refine S_aload_n (pc := 42) dX10_costOf_42 rfl ?_
        refine S_getR (pc := 43) dX10_costOf_43 fX10_17 (by assumption) rfl (by assumption) ?_
        refine G_iload_n (pc := 46) dX10_costOf_46 rfl ?_
        refine S_iald (pc := 47) dX10_costOf_47 (by assumption) (by omega) ?_
        rw [hkd]
        refine G_if_ne_t (pc := 48) 59 dX10_costOf_48 rfl (by omega) (by omega) ?_
        refine S_aload_n (pc := 59) dX10_costOf_59 rfl ?_
        refine S_getR (pc := 60) dX10_costOf_60 fX10_17 (by assumption) rfl (by assumption) ?_
        refine G_iload_n (pc := 63) dX10_costOf_63 rfl ?_
        refine S_iald (pc := 64) dX10_costOf_64 (by assumption) (by omega) ?_
        rw [hkd]
        refine G_iconst (pc := 65) dX10_costOf_65 ?_
        refine G_icmp_eq_f (pc := 66) 79 dX10_costOf_66 rfl (by omega) (by omega) ?_
        refine S_aload_n (pc := 69) dX10_costOf_69 rfl ?_
        refine S_getR (pc := 70) dX10_costOf_70 fX10_17 (by assumption) rfl (by assumption) ?_
        refine G_iload_n (pc := 73) dX10_costOf_73 rfl ?_
        refine S_iald (pc := 74) dX10_costOf_74 (by assumption) (by omega) ?_
        rw [hkd]
        refine G_iconst (pc := 75) dX10_costOf_75 ?_
        refine G_icmp_ne_t (pc := 76) 150 dX10_costOf_76 rfl (by omega) (by omega) ?_
        refine S_aload_n (pc := 150) dX10_costOf_150 rfl ?_
        refine G_iload_n (pc := 151) dX10_costOf_151 rfl ?_
        refine S_callV (pc := 152) (ci := 10) (d2 := 1) (mc2 := 0) (ms2 := 0) (As := [_]) dX10_costOf_152 kX10_layOut lkX10_130 (by assumption) rfl rfl rfl (Nat.le_of_ble_eq_true rfl) ⟨by decide, by decide⟩ (by decide) ?_
        refine c_X10_layOut hV hL hwy hkd hcut hk hc (fun S' g1 g2 g3 g4 g5 => ?_)
        exact K155 S' g1 g2 g3 g4 g5
  have hz0 : (plen (mg S a) 80 = 0 ∨ plen (mg S b) 80 = 0) → Q (some (.long (iL 0))) (hp g sh S) n := fun h => by
    have hs1 := hs0
    unfold ctO at hs1
    rw [if_pos h] at hs1
    exact hs1
  have hK := K42
  unfold mx2 at hK
  refine S_aload_n (pc := 0) dX10_costOf_0 rfl ?_
  refine G_iload_n (pc := 1) dX10_costOf_1 rfl ?_
  refine S_callV (pc := 2) (ci := 10) (d2 := 1) (mc2 := 0) (ms2 := 0) (As := [_]) dX10_costOf_2 kX10_length lkX10_94 (by assumption) rfl rfl rfl (Nat.le_of_ble_eq_true rfl) ⟨by decide, by decide⟩ (by decide) ?_
  refine c_X10_length hW (by omega) ?_
  show G _ _ _ _ _ _ _ _ _ _ _ _ _
  refine G_istore (pc := 5) (ls' := [(4, _), (0, _), (1, _), (2, _), (3, _)]) dX10_costOf_5 (by decide) rfl ?_
  refine S_aload_n (pc := 7) dX10_costOf_7 rfl ?_
  refine G_iload_n (pc := 8) dX10_costOf_8 rfl ?_
  refine S_callV (pc := 9) (ci := 10) (d2 := 1) (mc2 := 0) (ms2 := 0) (As := [_]) dX10_costOf_9 kX10_length lkX10_94 (by assumption) rfl rfl rfl (Nat.le_of_ble_eq_true rfl) ⟨by decide, by decide⟩ (by decide) ?_
  refine c_X10_length hW (by omega) ?_
  show G _ _ _ _ _ _ _ _ _ _ _ _ _
  refine G_istore (pc := 12) (ls' := [(5, _), (4, _), (0, _), (1, _), (2, _), (3, _)]) dX10_costOf_12 (by decide) rfl ?_
  refine G_iload (pc := 14) dX10_costOf_14 rfl ?_
  refine G_if_eq (pc := 16) 24 dX10_costOf_16 rfl (by omega) (fun c16 => ?_) (fun c16 => ?_)
  · skip
    refine G_lconst (pc := 24) (v := 0) dX10_costOf_24 rfl ?_
    refine G_lret (pc := 25) dX10_costOf_25 rfl (by decide) ?_
    exact hz0 (by omega)
  · skip
    refine G_iload (pc := 19) dX10_costOf_19 rfl ?_
    refine G_if_ne (pc := 21) 26 dX10_costOf_21 rfl (by omega) (fun c21 => ?_) (fun c21 => ?_)
    · skip
      refine G_iload (pc := 26) dX10_costOf_26 rfl ?_
      refine G_iload (pc := 28) dX10_costOf_28 rfl ?_
      refine G_icmp_le (pc := 30) 38 dX10_costOf_30 rfl (by omega) (fun c30 => ?_) (fun c30 => ?_)
      · skip
        refine G_iload (pc := 38) dX10_costOf_38 rfl ?_
        refine G_istore (pc := 40) (ls' := [(6, _), (5, _), (4, _), (0, _), (1, _), (2, _), (3, _)]) dX10_costOf_40 (by decide) rfl ?_
        have hK2 := hK (by omega)
        first | (rw [if_pos (by omega)] at hK2; exact hK2) | (rw [if_neg (by omega)] at hK2; exact hK2)
      · skip
        refine G_iload (pc := 33) dX10_costOf_33 rfl ?_
        refine G_goto (pc := 35) 40 dX10_costOf_35 rfl ?_
        refine G_istore (pc := 40) (ls' := [(6, _), (5, _), (4, _), (0, _), (1, _), (2, _), (3, _)]) dX10_costOf_40 (by decide) rfl ?_
        have hK2 := hK (by omega)
        first | (rw [if_pos (by omega)] at hK2; exact hK2) | (rw [if_neg (by omega)] at hK2; exact hK2)
    · skip
      refine G_lconst (pc := 24) (v := 0) dX10_costOf_24 rfl ?_
      refine G_lret (pc := 25) dX10_costOf_25 rfl (by decide) ?_
      exact hz0 (by omega)
set_option maxRecDepth 100000 in
set_option maxHeartbeats 4000000 in
theorem c_X10_cost {g : GC} {p w a b wy : Int} {sh : SH} {S : SS} {n : Nat} {Q : Option Value → GA → Nat → Prop} (hW : MdW p sh S) (hV : MvW sh S w) (hL : MlW sh S) (hr : (-2147483648 ≤ a ∧ a ≤ 2147483647) ∧ (-2147483648 ≤ b ∧ b ≤ 2147483647) ∧ (-2147483648 ≤ wy ∧ wy ≤ 2147483647)) (hs32 : ∀ r : Int, 0 ≤ r → r < 8 → Sup (mg S r) 32) (hcut : ∀ i : Int, 0 ≤ i → i < w → 1 ≤ S.2.1 99 i ∧ S.2.1 99 i ≤ 16)
    (h0 : ¬ ((0 ≤ a ∧ a < 8) ∧ (0 ≤ b ∧ b < 8) ∧ (0 ≤ wy ∧ wy < w)) → Q (some (.int (iI (-2)))) (hp g sh S) n)
    (h1 : (0 ≤ a ∧ a < 8) → (0 ≤ b ∧ b < 8) → (0 ≤ wy ∧ wy < w) → ∀ S' : SS, MScr S S' → MdW p sh S' → Q (some (.int (iI (ctO (S.2.1 98 wy) (S.2.1 99 wy) (plen (mg S a) 80) (plen (mg S b) 80) (smf (mg S a) (mg S b)))))) (hp g sh S') n) : GCall g mX10_cost 4 0 0 [gr g 96, .int (iI a), .int (iI b), .int (iI wy)] (hp g sh S) n Q := by
  have h96 := hW.2.1
  obtain ⟨hr1, hr2, hr3⟩ := hr
  refine GCall.of (by decide) (Nat.le_of_ble_eq_true rfl) (ls := [(0, _), (1, _), (2, _), (3, _)]) rfl ?_
  have hgo : (0 ≤ a ∧ a < 8) → (0 ≤ b ∧ b < 8) → (0 ≤ wy ∧ wy < w) → ∀ S' : SS, MScr S S' → MdW p sh S' → G g mX10_cost 4 0 0 29 [(0, gr g 96), (1, .int (iI a)), (2, .int (iI b)), (3, .int (iI wy))] [.long (iL (ctO (S.2.1 98 wy) (S.2.1 99 wy) (plen (mg S a) 80) (plen (mg S b) 80) (smf (mg S a) (mg S b))))] (hp g sh S') n 0 0 Q := by
    intro z1 z2 z3 S' g1 g2
    refine G_l2i (pc := 29) dX10_cost_29 ?_
    refine G_iret (pc := 30) dX10_cost_30 rfl (by decide) ?_
    exact h1 z1 z2 z3 S' g1 g2
  refine S_aload_n (pc := 0) dX10_cost_0 rfl ?_
  refine G_iload_n (pc := 1) dX10_cost_1 rfl ?_
  refine G_iload_n (pc := 2) dX10_cost_2 rfl ?_
  refine S_callV (pc := 3) (ci := 10) (d2 := 3) (mc2 := 0) (ms2 := 0) (As := [_, _]) dX10_cost_3 kX10_areBad lkX10_133 (by assumption) rfl rfl rfl (Nat.le_of_ble_eq_true rfl) ⟨by decide, by decide⟩ (by decide) ?_
  refine c_X10_areBad h96 (by omega) (fun w3 => ?_) (fun w3 => ?_)
  · show G _ _ _ _ _ _ _ _ _ _ _ _ _
    refine G_if_ne_t (pc := 6) 17 dX10_cost_6 rfl (by decide) (by decide) ?_
    refine G_bipush (pc := 17) dX10_cost_17 rfl ?_
    refine G_goto (pc := 19) 30 dX10_cost_19 rfl ?_
    refine G_iret (pc := 30) dX10_cost_30 rfl (by decide) ?_
    exact h0 (by omega)
  · show G _ _ _ _ _ _ _ _ _ _ _ _ _
    refine G_if_ne_f (pc := 6) 17 dX10_cost_6 rfl (by decide) (by decide) ?_
    refine S_aload_n (pc := 9) dX10_cost_9 rfl ?_
    refine G_iload_n (pc := 10) dX10_cost_10 rfl ?_
    refine S_callV (pc := 11) (ci := 10) (d2 := 2) (mc2 := 0) (ms2 := 0) (As := [_]) dX10_cost_11 kX10_isWay lkX10_136 (by assumption) rfl rfl rfl (Nat.le_of_ble_eq_true rfl) ⟨by decide, by decide⟩ (by decide) ?_
    refine c_X10_isWay hV (by omega) (fun w11 => ?_) (fun w11 => ?_)
    · show G _ _ _ _ _ _ _ _ _ _ _ _ _
      refine G_if_ne_t (pc := 14) 22 dX10_cost_14 rfl (by decide) (by decide) ?_
      refine S_aload_n (pc := 22) dX10_cost_22 rfl ?_
      refine G_iload_n (pc := 23) dX10_cost_23 rfl ?_
      refine G_iload_n (pc := 24) dX10_cost_24 rfl ?_
      refine G_iload_n (pc := 25) dX10_cost_25 rfl ?_
      refine S_callV (pc := 26) (ci := 10) (d2 := 2) (mc2 := 0) (ms2 := 0) (As := [_, _, _]) dX10_cost_26 kX10_costOf lkX10_139 (by assumption) rfl rfl rfl (Nat.le_of_ble_eq_true rfl) ⟨by decide, by decide⟩ (by decide) ?_
      refine c_X10_costOf hW hV hL (by omega) (by omega) (hs32 a (by omega) (by omega)) (hs32 b (by omega) (by omega)) (by omega) rfl rfl (hcut wy (by omega) (by omega)) (fun S' g1 g2 _ _ => ?_)
      exact hgo (by omega) (by omega) (by omega) S' g1 g2
    · show G _ _ _ _ _ _ _ _ _ _ _ _ _
      refine G_if_ne_f (pc := 14) 22 dX10_cost_14 rfl (by decide) (by decide) ?_
      refine G_bipush (pc := 17) dX10_cost_17 rfl ?_
      refine G_goto (pc := 19) 30 dX10_cost_19 rfl ?_
      refine G_iret (pc := 30) dX10_cost_30 rfl (by decide) ?_
      exact h0 (by omega)
theorem MScr_97 {S S' : SS} (h : S'.2.1 97 = S.2.1 97) {r : Int} : mg S' r = mg S r := by unfold mg; rw [h]
set_option maxRecDepth 100000 in
set_option maxHeartbeats 4000000 in
theorem c_X10_times {g : GC} {p w t a b wy : Int} {sh : SH} {S : SS} {n : Nat} {Q : Option Value → GA → Nat → Prop} (hW : MdW p sh S) (hV : MvW sh S w) (hL : MlW sh S) (hr : (-2147483648 ≤ t ∧ t ≤ 2147483647) ∧ (-2147483648 ≤ a ∧ a ≤ 2147483647) ∧ (-2147483648 ≤ b ∧ b ≤ 2147483647) ∧ (-2147483648 ≤ wy ∧ wy ≤ 2147483647)) (hs32 : ∀ r : Int, 0 ≤ r → r < 8 → Sup (mg S r) 32) (hcut : ∀ i : Int, 0 ≤ i → i < w → 1 ≤ S.2.1 99 i ∧ S.2.1 99 i ≤ 16)
    (h0 : ¬ ((0 ≤ t ∧ t < 8) ∧ (0 ≤ a ∧ a < 8) ∧ (0 ≤ b ∧ b < 8) ∧ (0 ≤ wy ∧ wy < w)) → Q (some (.int (iI (-2)))) (hp g sh S) n)
    (h1 : (0 ≤ t ∧ t < 8) → (0 ≤ a ∧ a < 8) → (0 ≤ b ∧ b < 8) → (0 ≤ wy ∧ wy < w) → ∀ c : Int, c = ctO (S.2.1 98 wy) (S.2.1 99 wy) (plen (mg S a) 80) (plen (mg S b) 80) (smf (mg S a) (mg S b)) → (c < 0 ∨ (0 < plen (mg S a) 80 ∧ 0 < plen (mg S b) 80 ∧ 32 < plen (mg S a) 80 + plen (mg S b) 80 - 1)) → ∀ S' : SS, MScr S S' → MdW p sh S' → Q (some (.int (iI (-4)))) (hp g sh S') n)
    (h2 : (0 ≤ t ∧ t < 8) → (0 ≤ a ∧ a < 8) → (0 ≤ b ∧ b < 8) → (0 ≤ wy ∧ wy < w) → ∀ c : Int, c = ctO (S.2.1 98 wy) (S.2.1 99 wy) (plen (mg S a) 80) (plen (mg S b) 80) (smf (mg S a) (mg S b)) → 0 ≤ c → ¬ (0 < plen (mg S a) 80 ∧ 0 < plen (mg S b) 80 ∧ 32 < plen (mg S a) 80 + plen (mg S b) 80 - 1) → ∀ S' : SS, MScr S S' → MdW p sh S' → Q (some (.int (iI c))) (hp g sh (setF (mset S' t (pmul p (mg S a) (mg S b))) 96 6 (S.1 96 6 + c))) n) : GCall g mX10_times 4 0 0 [gr g 96, .int (iI t), .int (iI a), .int (iI b), .int (iI wy)] (hp g sh S) n Q := by
  have h96 := hW.2.1
  have hP := hW.1
  have hpb := hP.bd
  obtain ⟨hr0, hr1, hr2, hr3⟩ := hr
  have r98 := hV.2.2.2.2.2.2.2.1
  refine GCall.of (by decide) (Nat.le_of_ble_eq_true rfl) (ls := [(0, _), (1, _), (2, _), (3, _), (4, _)]) rfl ?_
  have hgo : (0 ≤ t ∧ t < 8) → (0 ≤ a ∧ a < 8) → (0 ≤ b ∧ b < 8) → (0 ≤ wy ∧ wy < w) → ∀ c : Int, c = ctO (S.2.1 98 wy) (S.2.1 99 wy) (plen (mg S a) 80) (plen (mg S b) 80) (smf (mg S a) (mg S b)) → ∀ S' : SS, MScr S S' → MdW p sh S' → S'.1 = S.1 → S'.2.1 97 = S.2.1 97 → G g mX10_times 4 0 0 36 [(0, gr g 96), (1, .int (iI t)), (2, .int (iI a)), (3, .int (iI b)), (4, .int (iI wy))] [.long (iL c)] (hp g sh S') n 0 0 Q := by
    intro z0 z1 z2 z3 c hc S' g1 g2 g3 g4
    have hla := plen_bd (mg S a) 80
    have hlb := plen_bd (mg S b) 80
    have hla2 : plen (mg S a) 80 ≤ 32 := plen_le (by omega) (fun j h1 _ => hs32 a z1.1 z1.2 j (by omega))
    have hlb2 : plen (mg S b) 80 ≤ 32 := plen_le (by omega) (fun j h1 _ => hs32 b z2.1 z2.2 j (by omega))
    have hcb := ctO_bd (sm := smf (mg S a) (mg S b)) (r98 wy) (hcut wy z3.1 z3.2) ⟨hla.1, hla2⟩ ⟨hlb.1, hlb2⟩
    rw [← hc] at hcb
    have va : mg S' a = mg S a := MScr_97 g4
    have vb : mg S' b = mg S b := MScr_97 g4
    have hps : Sup (pmul p (mg S a) (mg S b)) 80 := pmul_sup (la := plen (mg S a) 80) (lb := plen (mg S b) 80) (fun j hj => Sup_len mg_sup hj) (fun j hj => Sup_len mg_sup hj) (by omega)
    have W3 : MdW p sh (mset S' 15 (pmul p (mg S a) (mg S b))) := MdW_set g2 (pmul_red (by omega))
    have K57 : 0 ≤ c → ¬ (0 < plen (mg S a) 80 ∧ 0 < plen (mg S b) 80 ∧ 32 < plen (mg S a) 80 + plen (mg S b) 80 - 1) → G g mX10_times 4 0 0 57 [(5, .long (iL c)), (0, gr g 96), (1, .int (iI t)), (2, .int (iI a)), (3, .int (iI b)), (4, .int (iI wy))] [] (hp g sh S') n 0 0 Q := by
      intro y1 y2
      have e6 : (mset (mset S' 15 (pmul p (mg S a) (mg S b))) t (pmul p (mg S a) (mg S b))).1 96 6 = S.1 96 6 := by rw [mset_F, mset_F, g3]
      refine S_aload_n (pc := 57) dX10_times_57 rfl ?_
      refine G_iload_n (pc := 58) dX10_times_58 rfl ?_
      refine G_iload_n (pc := 59) dX10_times_59 rfl ?_
      refine G_bipush (pc := 60) dX10_times_60 rfl ?_
      refine S_callV (pc := 62) (ci := 10) (d2 := 2) (mc2 := 0) (ms2 := 0) (As := [_, _, _]) dX10_times_62 kX10_multiply lkX10_146 (by assumption) rfl rfl rfl (Nat.le_of_ble_eq_true rfl) ⟨by decide, by decide⟩ (by decide) ?_
      refine c_X10_multiply g2 (by omega) (by omega) (by omega) (by omega) (by omega) (by rw [va, vb]; omega) ?_
      rw [va, vb]
      show G _ _ _ _ _ _ _ _ _ _ _ _ _
      refine S_aload_n (pc := 65) dX10_times_65 rfl ?_
      refine G_iload_n (pc := 66) dX10_times_66 rfl ?_
      refine G_bipush (pc := 67) dX10_times_67 rfl ?_
      refine S_callV (pc := 69) (ci := 10) (d2 := 2) (mc2 := 0) (ms2 := 0) (As := [_, _]) dX10_times_69 kX10_comes lkX10_109 (by assumption) rfl rfl rfl (Nat.le_of_ble_eq_true rfl) ⟨by decide, by decide⟩ (by decide) ?_
      refine c_X10_comes W3 (by omega) (by omega) ?_
      rw [mg_set hps]
      show G _ _ _ _ _ _ _ _ _ _ _ _ _
      refine G_istore (pc := 72) (ls' := [(7, _), (5, _), (0, _), (1, _), (2, _), (3, _), (4, _)]) dX10_times_72 (by decide) rfl ?_
      refine S_aload_n (pc := 74) dX10_times_74 rfl ?_
      refine G_dup (pc := 75) dX10_times_75 rfl ?_
      refine S_getL (pc := 76) dX10_times_76 fX10_150 (by assumption) rfl ?_
      rw [e6]
      refine G_lload (pc := 79) dX10_times_79 rfl ?_
      refine G_ladd (pc := 81) dX10_times_81 ?_
      refine S_putL (pc := 82) dX10_times_82 fX10_150 (by assumption) rfl ⟨rfl, rfl⟩ ?_
      refine G_lload (pc := 85) dX10_times_85 rfl ?_
      refine G_l2i (pc := 87) dX10_times_87 ?_
      refine G_iret (pc := 88) dX10_times_88 rfl (by decide) ?_
      exact h2 z0 z1 z2 z3 c hc y1 y2 _ (MScr_set g1 (by decide)) W3
    refine G_lstore (pc := 36) (ls' := [(5, _), (0, _), (1, _), (2, _), (3, _), (4, _)]) dX10_times_36 (by decide) rfl ?_
    refine S_aload_n (pc := 38) dX10_times_38 rfl ?_
    refine G_iload_n (pc := 39) dX10_times_39 rfl ?_
    refine G_iload_n (pc := 40) dX10_times_40 rfl ?_
    refine S_callV (pc := 41) (ci := 10) (d2 := 2) (mc2 := 0) (ms2 := 0) (As := [_, _]) dX10_times_41 kX10_isLong lkX10_143 (by assumption) rfl rfl rfl (Nat.le_of_ble_eq_true rfl) ⟨by decide, by decide⟩ (by decide) ?_
    refine c_X10_isLong g2 (by omega) (by omega) (fun hl => ?_) (fun hl => ?_)
    · show G _ _ _ _ _ _ _ _ _ _ _ _ _
      refine G_if_ne_t (pc := 44) 54 dX10_times_44 rfl (by decide) (by decide) ?_
      refine G_bipush (pc := 54) dX10_times_54 rfl ?_
      refine G_iret (pc := 56) dX10_times_56 rfl (by decide) ?_
      first
        | exact h1 z0 z1 z2 z3 c hc (Or.inr (by rw [va, vb] at hl; exact hl)) S' g1 g2
        | exact h1 z0 z1 z2 z3 c hc (Or.inl (by omega)) S' g1 g2
    · show G _ _ _ _ _ _ _ _ _ _ _ _ _
      refine G_if_ne_f (pc := 44) 54 dX10_times_44 rfl (by decide) (by decide) ?_
      refine G_lload (pc := 47) dX10_times_47 rfl ?_
      refine G_lconst (pc := 49) (v := 0) dX10_times_49 rfl ?_
      refine G_lcmp (pc := 50) dX10_times_50 (by omega) ?_
      refine G_if_ge (pc := 51) 57 dX10_times_51 rfl (by omega) (fun c51 => ?_) (fun c51 => ?_)
      · skip
        exact K57 (by omega) (by rw [va, vb] at hl; exact hl)
      · skip
        refine G_bipush (pc := 54) dX10_times_54 rfl ?_
        refine G_iret (pc := 56) dX10_times_56 rfl (by decide) ?_
        first
          | exact h1 z0 z1 z2 z3 c hc (Or.inr (by rw [va, vb] at hl; exact hl)) S' g1 g2
          | exact h1 z0 z1 z2 z3 c hc (Or.inl (by omega)) S' g1 g2
  refine G_iload_n (pc := 0) dX10_times_0 rfl ?_
  refine G_callS (pc := 1) (d2 := 2) (mc2 := 0) (ms2 := 0) (As := [_]) dX10_times_1 kX10_isPoly lkX10_98 rfl rfl (Nat.le_of_ble_eq_true rfl) ⟨by decide, by decide⟩ (by decide) ?_
  refine c_X10_isPoly (by omega) (fun w1 => ?_) (fun w1 => ?_)
  · show G _ _ _ _ _ _ _ _ _ _ _ _ _
    refine G_if_eq_f (pc := 4) 25 dX10_times_4 rfl (by decide) (by decide) ?_
    refine S_aload_n (pc := 7) dX10_times_7 rfl ?_
    refine G_iload_n (pc := 8) dX10_times_8 rfl ?_
    refine G_iload_n (pc := 9) dX10_times_9 rfl ?_
    refine S_callV (pc := 10) (ci := 10) (d2 := 3) (mc2 := 0) (ms2 := 0) (As := [_, _]) dX10_times_10 kX10_areBad lkX10_133 (by assumption) rfl rfl rfl (Nat.le_of_ble_eq_true rfl) ⟨by decide, by decide⟩ (by decide) ?_
    refine c_X10_areBad h96 (by omega) (fun w10 => ?_) (fun w10 => ?_)
    · show G _ _ _ _ _ _ _ _ _ _ _ _ _
      refine G_if_ne_t (pc := 13) 25 dX10_times_13 rfl (by decide) (by decide) ?_
      refine G_bipush (pc := 25) dX10_times_25 rfl ?_
      refine G_iret (pc := 27) dX10_times_27 rfl (by decide) ?_
      exact h0 (by omega)
    · show G _ _ _ _ _ _ _ _ _ _ _ _ _
      refine G_if_ne_f (pc := 13) 25 dX10_times_13 rfl (by decide) (by decide) ?_
      refine S_aload_n (pc := 16) dX10_times_16 rfl ?_
      refine G_iload (pc := 17) dX10_times_17 rfl ?_
      refine S_callV (pc := 19) (ci := 10) (d2 := 2) (mc2 := 0) (ms2 := 0) (As := [_]) dX10_times_19 kX10_isWay lkX10_136 (by assumption) rfl rfl rfl (Nat.le_of_ble_eq_true rfl) ⟨by decide, by decide⟩ (by decide) ?_
      refine c_X10_isWay hV (by omega) (fun w19 => ?_) (fun w19 => ?_)
      · show G _ _ _ _ _ _ _ _ _ _ _ _ _
        refine G_if_ne_t (pc := 22) 28 dX10_times_22 rfl (by decide) (by decide) ?_
        refine S_aload_n (pc := 28) dX10_times_28 rfl ?_
        refine G_iload_n (pc := 29) dX10_times_29 rfl ?_
        refine G_iload_n (pc := 30) dX10_times_30 rfl ?_
        refine G_iload (pc := 31) dX10_times_31 rfl ?_
        refine S_callV (pc := 33) (ci := 10) (d2 := 2) (mc2 := 0) (ms2 := 0) (As := [_, _, _]) dX10_times_33 kX10_costOf lkX10_139 (by assumption) rfl rfl rfl (Nat.le_of_ble_eq_true rfl) ⟨by decide, by decide⟩ (by decide) ?_
        refine c_X10_costOf hW hV hL (by omega) (by omega) (hs32 a (by omega) (by omega)) (hs32 b (by omega) (by omega)) (by omega) rfl rfl (hcut wy (by omega) (by omega)) (fun S' g1 g2 g3 g4 => ?_)
        exact hgo (by omega) (by omega) (by omega) (by omega) _ rfl S' g1 g2 g3 g4
      · show G _ _ _ _ _ _ _ _ _ _ _ _ _
        refine G_if_ne_f (pc := 22) 28 dX10_times_22 rfl (by decide) (by decide) ?_
        refine G_bipush (pc := 25) dX10_times_25 rfl ?_
        refine G_iret (pc := 27) dX10_times_27 rfl (by decide) ?_
        exact h0 (by omega)
  · show G _ _ _ _ _ _ _ _ _ _ _ _ _
    refine G_if_eq_t (pc := 4) 25 dX10_times_4 rfl (by decide) (by decide) ?_
    refine G_bipush (pc := 25) dX10_times_25 rfl ?_
    refine G_iret (pc := 27) dX10_times_27 rfl (by decide) ?_
    exact h0 (by omega)
set_option maxRecDepth 100000 in
set_option maxHeartbeats 4000000 in
theorem c_X10_counted {g : GC} {sh : SH} {S : SS} {n : Nat} {Q : Option Value → GA → Nat → Prop} (h96 : sh 96 = some (.inl 10)) (hq : Q (some (.long (iL (S.1 96 6)))) (hp g sh S) n) : GCall g mX10_counted 1 0 0 [gr g 96] (hp g sh S) n Q := by
  refine GCall.of (by decide) (Nat.le_of_ble_eq_true rfl) (ls := [(0, _)]) rfl ?_
  refine S_aload_n (pc := 0) dX10_counted_0 rfl ?_
  refine S_getL (pc := 1) dX10_counted_1 fX10_150 (by assumption) rfl ?_
  refine G_lret (pc := 4) dX10_counted_4 rfl (by decide) ?_
  exact hq
