/-! the Model: compose -/
set_option maxRecDepth 100000 in
set_option maxHeartbeats 4000000 in
theorem l_X10_compose {g : GC} {p t0 a b L : Int} {sh : SH} {S : SS} {n : Nat} {Q : Option Value → GA → Nat → Prop} (hP : IsP p) (ha : 0 ≤ a ∧ a < 8) (hb : 0 ≤ b ∧ b < 8) (hL : 0 ≤ L ∧ L ≤ 80)
    (hroom : ∀ t : Nat, t < L → plen (cmpo p (mg S a) (mg S b) L t) 80 + plen (mg S b) 80 ≤ 81)
    (K : ∀ S1 : SS, MRel S S1 → MdW p sh S1 → mg S1 8 = cmpo p (mg S a) (mg S b) L L.toNat → G g mX10_compose 6 0 0 138 [(5, .int (iI (plen (mg S b) 80))), (4, .int (iI L)), (0, gr g 96), (1, .int (iI t0)), (2, .int (iI a)), (3, .int (iI b))] [] (hp g sh S1) n 0 0 Q) :
    ∀ (k t : Nat) (S1 : SS), t + k = L → MRel S S1 → MdW p sh S1 → mg S1 8 = cmpo p (mg S a) (mg S b) L t → G g mX10_compose 6 0 0 76 [(6, .int (iI (L - 1 - t))), (5, .int (iI (plen (mg S b) 80))), (4, .int (iI L)), (0, gr g 96), (1, .int (iI t0)), (2, .int (iI a)), (3, .int (iI b))] [] (hp g sh S1) n 0 0 Q := by
  intro k
  have hpb := hP.bd
  have hbb := plen_bd (mg S b) 80
  induction k with
  | zero =>
    intro t S1 ht hR W1 v8
    refine G_iload (pc := 76) dX10_compose_76 rfl ?_
    refine G_if_lt_t (pc := 78) 138 dX10_compose_78 rfl (by omega) (by omega) ?_
    refine G_ls (ls' := [(5, _), (4, _), (0, _), (1, _), (2, _), (3, _)]) (lsub_c rfl (lsub_c rfl (lsub_c rfl (lsub_c rfl (lsub_c rfl (lsub_c rfl lsub_n)))))) ?_
    exact K S1 hR W1 (by rw [v8, show t = L.toNat by omega])
  | succ k ih =>
    intro t S1 ht hR W1 v8
    have hW' := W1
    obtain ⟨_, h96, hp1, p2, h97, hred⟩ := hW'
    have va : mg S1 a = mg S a := hR.2.2.2 a (by omega) (by omega)
    have vb : mg S1 b = mg S b := hR.2.2.2 b (by omega) (by omega)
    have hrm := hroom t (by omega)
    have s8 : Sup (cmpo p (mg S a) (mg S b) L t) 80 := by rw [← v8]; exact mg_sup
    have hPr : Red p (pmul p (cmpo p (mg S a) (mg S b) L t) (mg S b)) := pmul_red (by omega)
    have hPs : Sup (pmul p (cmpo p (mg S a) (mg S b) L t) (mg S b)) 80 := pmul_sup (la := plen (cmpo p (mg S a) (mg S b) L t) 80) (lb := plen (mg S b) 80) (fun j hj => Sup_len s8 hj) (fun j hj => Sup_len mg_sup hj) (by omega)
    have W2 : MdW p sh (mset S1 11 (pmul p (cmpo p (mg S a) (mg S b) L t) (mg S b))) := MdW_set W1 hPr
    have W3 : MdW p sh (mset (mset S1 11 (pmul p (cmpo p (mg S a) (mg S b) L t) (mg S b))) 8 (pmul p (cmpo p (mg S a) (mg S b) L t) (mg S b))) := MdW_set W2 hPr
    have e1 : (mset (mset S1 11 (pmul p (cmpo p (mg S a) (mg S b) L t) (mg S b))) 8 (pmul p (cmpo p (mg S a) (mg S b) L t) (mg S b))).2.1 97 640 = pmul p (cmpo p (mg S a) (mg S b) L t) (mg S b) 0 := by rw [mg_at (r := 8) (i := 0) (by omega) (by omega), mg_set hPs]
    have e2 : (mset (mset S1 11 (pmul p (cmpo p (mg S a) (mg S b) L t) (mg S b))) 8 (pmul p (cmpo p (mg S a) (mg S b) L t) (mg S b))).2.1 97 (80 * a + (L - 1 - t)) = mg S a (L - 1 - t) := by rw [mg_at (r := a) (i := L - 1 - t) (by omega) rfl, mg_ne (by omega), mg_ne (by omega), va]
    have hx := hPr 0
    have hy : 0 ≤ mg S a (L - 1 - t) ∧ mg S a (L - 1 - t) < p := by rw [← va]; exact mg_red W1 _
    have e3 : (mset (mset S1 11 (pmul p (cmpo p (mg S a) (mg S b) L t) (mg S b))) 8 (pmul p (cmpo p (mg S a) (mg S b) L t) (mg S b))).1 96 1 = p := hp1
    refine G_iload (pc := 76) dX10_compose_76 rfl ?_
    refine G_if_lt_f (pc := 78) 138 dX10_compose_78 rfl (by omega) (by omega) ?_
    refine S_aload_n (pc := 81) dX10_compose_81 rfl ?_
    refine G_bipush (pc := 82) dX10_compose_82 rfl ?_
    refine G_iload_n (pc := 84) dX10_compose_84 rfl ?_
    refine G_bipush (pc := 85) dX10_compose_85 rfl ?_
    refine S_callV (pc := 87) (ci := 10) (d2 := 2) (mc2 := 0) (ms2 := 0) (As := [_, _, _]) dX10_compose_87 kX10_multiply lkX10_146 (by assumption) rfl rfl rfl (Nat.le_of_ble_eq_true rfl) ⟨by decide, by decide⟩ (by decide) ?_
    refine c_X10_multiply W1 (by omega) (by omega) (by omega) (by decide) (by omega) (by rw [v8, vb]; exact hrm) ?_
    rw [v8, vb]
    show G _ _ _ _ _ _ _ _ _ _ _ _ _
    refine S_aload_n (pc := 90) dX10_compose_90 rfl ?_
    refine G_bipush (pc := 91) dX10_compose_91 rfl ?_
    refine G_bipush (pc := 93) dX10_compose_93 rfl ?_
    refine S_callV (pc := 95) (ci := 10) (d2 := 1) (mc2 := 0) (ms2 := 0) (As := [_, _]) dX10_compose_95 kX10_copy lkX10_90 (by assumption) rfl rfl rfl (Nat.le_of_ble_eq_true rfl) ⟨by decide, by decide⟩ (by decide) ?_
    refine c_X10_copy W2 (by omega) (by omega) ?_
    rw [mg_set hPs]
    show G _ _ _ _ _ _ _ _ _ _ _ _ _
    refine S_aload_n (pc := 98) dX10_compose_98 rfl ?_
    refine S_getR (pc := 99) dX10_compose_99 fX10_13 (by assumption) rfl (by assumption) ?_
    refine G_sipush (pc := 102) dX10_compose_102 rfl ?_
    refine S_aload_n (pc := 105) dX10_compose_105 rfl ?_
    refine S_getR (pc := 106) dX10_compose_106 fX10_13 (by assumption) rfl (by assumption) ?_
    refine G_sipush (pc := 109) dX10_compose_109 rfl ?_
    refine S_iald (pc := 112) dX10_compose_112 (by assumption) (by omega) ?_
    rw [e1]
    refine S_aload_n (pc := 113) dX10_compose_113 rfl ?_
    refine S_getR (pc := 114) dX10_compose_114 fX10_13 (by assumption) rfl (by assumption) ?_
    refine G_bipush (pc := 117) dX10_compose_117 rfl ?_
    refine G_iload_n (pc := 119) dX10_compose_119 rfl ?_
    refine G_imul (pc := 120) dX10_compose_120 ?_
    refine G_iload (pc := 121) dX10_compose_121 rfl ?_
    refine G_iadd (pc := 123) dX10_compose_123 ?_
    refine S_iald (pc := 124) dX10_compose_124 (by assumption) (by omega) ?_
    rw [e2]
    refine G_iadd (pc := 125) dX10_compose_125 ?_
    refine S_aload_n (pc := 126) dX10_compose_126 rfl ?_
    refine S_getI (pc := 127) dX10_compose_127 fX10_64 (by assumption) rfl ?_
    rw [e3]
    refine G_iremP (pc := 130) dX10_compose_130 (by omega) ?_
    refine S_iast (pc := 131) dX10_compose_131 (by assumption) (by omega) ?_
    refine G_iinc (pc := 132) (ls' := [(6, _), (5, _), (4, _), (0, _), (1, _), (2, _), (3, _)]) dX10_compose_132 rfl (by decide) rfl ?_
    refine G_goto (pc := 135) 76 dX10_compose_135 rfl ?_
    rw [show (640 : Int) = 80 * 8 + 0 by omega, mset_setA (by omega), show iup (pmul p (cmpo p (mg S a) (mg S b) L t) (mg S b)) 0 ((pmul p (cmpo p (mg S a) (mg S b) L t) (mg S b) 0 + mg S a (L - 1 - t)) % p) = cmpo p (mg S a) (mg S b) L (t + 1) from rfl]
    have hs' : Red p (cmpo p (mg S a) (mg S b) L (t + 1)) := Red_iup hPr (em_bd (by omega))
    have := ih (t + 1) (mset (mset S1 11 (pmul p (cmpo p (mg S a) (mg S b) L t) (mg S b))) 8 (cmpo p (mg S a) (mg S b) L (t + 1))) (by omega) (MRel_set (MRel_set hR (by decide)) (by decide)) (MdW_set W2 hs') (mg_set (Sup_iup hPs (by omega)))
    rw [show L - 1 - ((t + 1 : Nat) : Int) = L - 1 - t + -1 by omega] at this
    exact this
set_option maxRecDepth 100000 in
set_option maxHeartbeats 4000000 in
theorem c_X10_compose {g : GC} {p t0 a b : Int} {sh : SH} {S : SS} {n : Nat} {Q : Option Value → GA → Nat → Prop} (hW : MdW p sh S) (hr : (-2147483648 ≤ t0 ∧ t0 ≤ 2147483647) ∧ (-2147483648 ≤ a ∧ a ≤ 2147483647) ∧ (-2147483648 ≤ b ∧ b ≤ 2147483647)) (h0 : ¬ ((0 ≤ t0 ∧ t0 < 8) ∧ (0 ≤ a ∧ a < 8) ∧ (0 ≤ b ∧ b < 8)) → Q (some (.int (iI (-2)))) (hp g sh S) n)
    (hroom : (0 ≤ a ∧ a < 8) → (0 ≤ b ∧ b < 8) → ¬ (1 < plen (mg S a) 80 ∧ 1 < plen (mg S b) 80 ∧ 32 < (plen (mg S a) 80 - 1) * (plen (mg S b) 80 - 1) + 1) → ∀ t : Nat, t < plen (mg S a) 80 → plen (cmpo p (mg S a) (mg S b) (plen (mg S a) 80) t) 80 + plen (mg S b) 80 ≤ 81)
    (h2 : (0 ≤ t0 ∧ t0 < 8) → (0 ≤ a ∧ a < 8) → (0 ≤ b ∧ b < 8) → (1 < plen (mg S a) 80 ∧ 1 < plen (mg S b) 80 ∧ 32 < (plen (mg S a) 80 - 1) * (plen (mg S b) 80 - 1) + 1) → Q (some (.int (iI (-4)))) (hp g sh S) n)
    (h1 : (0 ≤ t0 ∧ t0 < 8) → (0 ≤ a ∧ a < 8) → (0 ≤ b ∧ b < 8) → ¬ (1 < plen (mg S a) 80 ∧ 1 < plen (mg S b) 80 ∧ 32 < (plen (mg S a) 80 - 1) * (plen (mg S b) 80 - 1) + 1) → ∀ (S' : SS) (x : Int → Int), MRel S S' → MdW p sh S' → x = cmpo p (mg S a) (mg S b) (plen (mg S a) 80) (plen (mg S a) 80).toNat → Q (some (.int (iI (plen x 80)))) (hp g sh (mset S' t0 x)) n) :
    GCall g mX10_compose 6 0 0 [gr g 96, .int (iI t0), .int (iI a), .int (iI b)] (hp g sh S) n Q := by
  have hW' := hW
  obtain ⟨hP, h96, hp1, p2, h97, hred⟩ := hW'
  have hpb := hP.bd
  obtain ⟨hr1, hr2, hr3⟩ := hr
  have hab := plen_bd (mg S a) 80
  have hbb := plen_bd (mg S b) 80
  refine GCall.of (by decide) (Nat.le_of_ble_eq_true rfl) (ls := [(0, _), (1, _), (2, _), (3, _)]) rfl ?_
  have hlast : (0 ≤ t0 ∧ t0 < 8) → (0 ≤ a ∧ a < 8) → (0 ≤ b ∧ b < 8) → ¬ (1 < plen (mg S a) 80 ∧ 1 < plen (mg S b) 80 ∧ 32 < (plen (mg S a) 80 - 1) * (plen (mg S b) 80 - 1) + 1) → G g mX10_compose 6 0 0 64 [(5, .int (iI (plen (mg S b) 80))), (4, .int (iI (plen (mg S a) 80))), (0, gr g 96), (1, .int (iI t0)), (2, .int (iI a)), (3, .int (iI b))] [] (hp g sh S) n 0 0 Q := by
    intro ht ha hb hf
    have W1 : MdW p sh (mset S 8 pz) := MdW_set hW (Red_pz (by omega))
    have K : ∀ S1 : SS, MRel S S1 → MdW p sh S1 → mg S1 8 = cmpo p (mg S a) (mg S b) (plen (mg S a) 80) (plen (mg S a) 80).toNat → G g mX10_compose 6 0 0 138 [(5, .int (iI (plen (mg S b) 80))), (4, .int (iI (plen (mg S a) 80))), (0, gr g 96), (1, .int (iI t0)), (2, .int (iI a)), (3, .int (iI b))] [] (hp g sh S1) n 0 0 Q := by
      intro S1 hR W2 v8
      have h96' := W2.2.1
      refine S_aload_n (pc := 138) dX10_compose_138 rfl ?_
      refine G_iload_n (pc := 139) dX10_compose_139 rfl ?_
      refine G_bipush (pc := 140) dX10_compose_140 rfl ?_
      refine S_callV (pc := 142) (ci := 10) (d2 := 2) (mc2 := 0) (ms2 := 0) (As := [_, _]) dX10_compose_142 kX10_comes lkX10_109 (by assumption) rfl rfl rfl (Nat.le_of_ble_eq_true rfl) ⟨by decide, by decide⟩ (by decide) ?_
      refine c_X10_comes W2 (by omega) (by omega) ?_
      show G _ _ _ _ _ _ _ _ _ _ _ _ _
      refine G_iret (pc := 145) dX10_compose_145 rfl (by decide) ?_
      exact h1 ht ha hb hf S1 _ hR W2 v8
    refine S_aload_n (pc := 64) dX10_compose_64 rfl ?_
    refine G_bipush (pc := 65) dX10_compose_65 rfl ?_
    refine S_callV (pc := 67) (ci := 10) (d2 := 1) (mc2 := 0) (ms2 := 0) (As := [_]) dX10_compose_67 kX10_empty lkX10_105 (by assumption) rfl rfl rfl (Nat.le_of_ble_eq_true rfl) ⟨by decide, by decide⟩ (by decide) ?_
    refine c_X10_empty hW (by omega) ?_
    show G _ _ _ _ _ _ _ _ _ _ _ _ _
    refine G_iload (pc := 70) dX10_compose_70 rfl ?_
    refine G_iconst (pc := 72) dX10_compose_72 ?_
    refine G_isub (pc := 73) dX10_compose_73 ?_
    refine G_istore (pc := 74) (ls' := [(6, _), (5, _), (4, _), (0, _), (1, _), (2, _), (3, _)]) dX10_compose_74 (by decide) rfl ?_
    have := l_X10_compose (t0 := t0) hP ha hb (by omega) (hroom ha hb hf) K (plen (mg S a) 80).toNat 0 (mset S 8 pz) (by omega) (MRel_set MRel_rf (by decide)) W1 (mg_set Sup_pz)
    rw [show plen (mg S a) 80 - 1 - ((0 : Nat) : Int) = plen (mg S a) 80 - 1 by omega] at this
    exact this
  have hmm : 1 < plen (mg S a) 80 → 1 < plen (mg S b) 80 → 0 ≤ (plen (mg S a) 80 - 1) * (plen (mg S b) 80 - 1) ∧ (plen (mg S a) 80 - 1) * (plen (mg S b) 80 - 1) ≤ 6400 := fun h h' => ⟨Int.mul_nonneg (by omega) (by omega), Int.le_trans (Int.mul_le_mul (show plen (mg S a) 80 - 1 ≤ 80 by omega) (show plen (mg S b) 80 - 1 ≤ 80 by omega) (by omega) (by omega)) (by decide)⟩
  refine G_iload_n (pc := 0) dX10_compose_0 rfl ?_
  refine G_callS (pc := 1) (d2 := 2) (mc2 := 0) (ms2 := 0) (As := [_]) dX10_compose_1 kX10_isPoly lkX10_98 rfl rfl (Nat.le_of_ble_eq_true rfl) ⟨by decide, by decide⟩ (by decide) ?_
  refine c_X10_isPoly (by omega) (fun w1 => ?_) (fun w1 => ?_)
  · show G _ _ _ _ _ _ _ _ _ _ _ _ _
    refine G_if_eq_f (pc := 4) 16 dX10_compose_4 rfl (by decide) (by decide) ?_
    refine S_aload_n (pc := 7) dX10_compose_7 rfl ?_
    refine G_iload_n (pc := 8) dX10_compose_8 rfl ?_
    refine G_iload_n (pc := 9) dX10_compose_9 rfl ?_
    refine S_callV (pc := 10) (ci := 10) (d2 := 3) (mc2 := 0) (ms2 := 0) (As := [_, _]) dX10_compose_10 kX10_areBad lkX10_133 (by assumption) rfl rfl rfl (Nat.le_of_ble_eq_true rfl) ⟨by decide, by decide⟩ (by decide) ?_
    refine c_X10_areBad h96 (by omega) (fun w10 => ?_) (fun w10 => ?_)
    · show G _ _ _ _ _ _ _ _ _ _ _ _ _
      refine G_if_eq_f (pc := 13) 19 dX10_compose_13 rfl (by decide) (by decide) ?_
      refine G_bipush (pc := 16) dX10_compose_16 rfl ?_
      refine G_iret (pc := 18) dX10_compose_18 rfl (by decide) ?_
      exact h0 (by omega)
    · show G _ _ _ _ _ _ _ _ _ _ _ _ _
      refine G_if_eq_t (pc := 13) 19 dX10_compose_13 rfl (by decide) (by decide) ?_
      refine S_aload_n (pc := 19) dX10_compose_19 rfl ?_
      refine G_iload_n (pc := 20) dX10_compose_20 rfl ?_
      refine S_callV (pc := 21) (ci := 10) (d2 := 1) (mc2 := 0) (ms2 := 0) (As := [_]) dX10_compose_21 kX10_length lkX10_94 (by assumption) rfl rfl rfl (Nat.le_of_ble_eq_true rfl) ⟨by decide, by decide⟩ (by decide) ?_
      refine c_X10_length hW (by omega) ?_
      show G _ _ _ _ _ _ _ _ _ _ _ _ _
      refine G_istore (pc := 24) (ls' := [(4, _), (0, _), (1, _), (2, _), (3, _)]) dX10_compose_24 (by decide) rfl ?_
      refine S_aload_n (pc := 26) dX10_compose_26 rfl ?_
      refine G_iload_n (pc := 27) dX10_compose_27 rfl ?_
      refine S_callV (pc := 28) (ci := 10) (d2 := 1) (mc2 := 0) (ms2 := 0) (As := [_]) dX10_compose_28 kX10_length lkX10_94 (by assumption) rfl rfl rfl (Nat.le_of_ble_eq_true rfl) ⟨by decide, by decide⟩ (by decide) ?_
      refine c_X10_length hW (by omega) ?_
      show G _ _ _ _ _ _ _ _ _ _ _ _ _
      refine G_istore (pc := 31) (ls' := [(5, _), (4, _), (0, _), (1, _), (2, _), (3, _)]) dX10_compose_31 (by decide) rfl ?_
      refine G_iload (pc := 33) dX10_compose_33 rfl ?_
      refine G_iconst (pc := 35) dX10_compose_35 ?_
      refine G_icmp_le (pc := 36) 64 dX10_compose_36 rfl (by omega) (fun c36 => ?_) (fun c36 => ?_)
      · skip
        exact hlast (by omega) (by omega) (by omega) (fun h => by omega)
      · skip
        refine G_iload (pc := 39) dX10_compose_39 rfl ?_
        refine G_iconst (pc := 41) dX10_compose_41 ?_
        refine G_icmp_le (pc := 42) 64 dX10_compose_42 rfl (by omega) (fun c42 => ?_) (fun c42 => ?_)
        · skip
          exact hlast (by omega) (by omega) (by omega) (fun h => by omega)
        · skip
          refine G_iload (pc := 45) dX10_compose_45 rfl ?_
          refine G_iconst (pc := 47) dX10_compose_47 ?_
          refine G_isub (pc := 48) dX10_compose_48 ?_
          refine G_iload (pc := 49) dX10_compose_49 rfl ?_
          refine G_iconst (pc := 51) dX10_compose_51 ?_
          refine G_isub (pc := 52) dX10_compose_52 ?_
          have hmm' := hmm (by omega) (by omega)
          refine G_imul (pc := 53) dX10_compose_53 ?_
          refine G_iconst (pc := 54) dX10_compose_54 ?_
          refine G_iadd (pc := 55) dX10_compose_55 ?_
          refine G_bipush (pc := 56) dX10_compose_56 rfl ?_
          refine G_icmp_le (pc := 58) 64 dX10_compose_58 rfl (by omega) (fun c58 => ?_) (fun c58 => ?_)
          · skip
            exact hlast (by omega) (by omega) (by omega) (fun h => by omega)
          · skip
            refine G_bipush (pc := 61) dX10_compose_61 rfl ?_
            refine G_iret (pc := 63) dX10_compose_63 rfl (by decide) ?_
            exact h2 (by omega) (by omega) (by omega) ⟨by omega, by omega, by omega⟩
  · show G _ _ _ _ _ _ _ _ _ _ _ _ _
    refine G_if_eq_t (pc := 4) 16 dX10_compose_4 rfl (by decide) (by decide) ?_
    refine G_bipush (pc := 16) dX10_compose_16 rfl ?_
    refine G_iret (pc := 18) dX10_compose_18 rfl (by decide) ?_
    exact h0 (by omega)
