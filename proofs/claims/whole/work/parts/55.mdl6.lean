/-! the Model: common, gcd, cofactor, compose -/
set_option maxRecDepth 100000 in
set_option maxHeartbeats 4000000 in
theorem c_X10_common {g : GC} {p a b : Int} {sh : SH} {S : SS} {n : Nat} {Q : Option Value → GA → Nat → Prop} (hW : MdW p sh S) (ha : 0 ≤ a ∧ a < 8) (hb : 0 ≤ b ∧ b < 8)
    (hroom : ∀ t : Nat, (∀ s : Nat, s ≤ t → 0 < plen (mu p (mg S a) (mg S b) s).2.1 80) → plen (pdiv p (mu p (mg S a) (mg S b) t).1 (mu p (mg S a) (mg S b) t).2.1 (plen (mu p (mg S a) (mg S b) t).1 80) (plen (mu p (mg S a) (mg S b) t).2.1 80)).1 80 + plen (mu p (mg S a) (mg S b) t).2.2.2 80 ≤ 81)
    (hq : ∀ (t : Nat) (S' : SS), MRel S S' → MdW p sh S' → (∀ s : Nat, s < t → 0 < plen (mu p (mg S a) (mg S b) s).2.1 80) → plen (mu p (mg S a) (mg S b) t).2.1 80 = 0 → mg S' 8 = pscal p (inv p ((mu p (mg S a) (mg S b) t).1 (plen (mu p (mg S a) (mg S b) t).1 80 - 1))) (mu p (mg S a) (mg S b) t).1 → mg S' 12 = (if plen (mu p (mg S a) (mg S b) t).1 80 = 0 then (mu p (mg S a) (mg S b) t).2.2.1 else pscal p (inv p ((mu p (mg S a) (mg S b) t).1 (plen (mu p (mg S a) (mg S b) t).1 80 - 1))) (mu p (mg S a) (mg S b) t).2.2.1) → Q none (hp g sh S') n) :
    GCall g mX10_common 5 0 0 [gr g 96, .int (iI a), .int (iI b)] (hp g sh S) n Q := by
  have hW' := hW
  obtain ⟨hP, h96, hp1, p2, h97, hred⟩ := hW'
  have hpb := hP.bd
  have hend : ∀ (t : Nat) (S1 : SS), MRel S S1 → MdW p sh S1 → MuV S1 (mu p (mg S a) (mg S b) t) → (∀ s : Nat, s < t → 0 < plen (mu p (mg S a) (mg S b) s).2.1 80) → plen (mu p (mg S a) (mg S b) t).2.1 80 = 0 → G g mX10_common 5 0 0 164 [(0, gr g 96)] [] (hp g sh S1) n 0 0 Q := by
    intro t S1 hR W1 hV hs ht
    obtain ⟨v8, v9, v12, v13⟩ := hV
    have q2 := W1.2.2.2.1
    have hbl := plen_bd (mu p (mg S a) (mg S b) t).1 80
    have r8 : Red p (mu p (mg S a) (mg S b) t).1 := by rw [← v8]; exact mg_red W1
    have s8 : Sup (mu p (mg S a) (mg S b) t).1 80 := by rw [← v8]; exact mg_sup
    have s12 : Sup (mu p (mg S a) (mg S b) t).2.2.1 80 := by rw [← v12]; exact mg_sup
    by_cases hc : plen (mu p (mg S a) (mg S b) t).1 80 = 0
    · skip
      refine S_aload_n (pc := 164) dX10_common_164 rfl ?_
      refine G_bipush (pc := 165) dX10_common_165 rfl ?_
      refine S_callV (pc := 167) (ci := 10) (d2 := 1) (mc2 := 0) (ms2 := 0) (As := [_]) dX10_common_167 kX10_length lkX10_94 (by assumption) rfl rfl rfl (Nat.le_of_ble_eq_true rfl) ⟨by decide, by decide⟩ (by decide) ?_
      refine c_X10_length W1 (by omega) ?_
      rw [v8]
      show G _ _ _ _ _ _ _ _ _ _ _ _ _
      refine G_if_ne_f (pc := 170) 174 dX10_common_170 rfl (by omega) (by omega) ?_
      refine G_vret (pc := 173) dX10_common_173 rfl (by decide) ?_
      refine hq t S1 hR W1 hs ht ?_ (by rw [if_pos hc]; exact v12)
      rw [v8]
      funext j
      unfold pscal
      have hj0 : (mu p (mg S a) (mg S b) t).1 j = 0 := by
        by_cases hj : j < 0
        · exact s8 j (Or.inl hj)
        · exact Sup_len s8 (by omega)
      rw [hj0, Int.zero_mul]
      exact (Int.zero_emod p).symm
    · have e1 : S1.2.1 97 (640 + plen (mu p (mg S a) (mg S b) t).1 80 - 1) = (mu p (mg S a) (mg S b) t).1 (plen (mu p (mg S a) (mg S b) t).1 80 - 1) := by rw [mg_at (r := 8) (i := plen (mu p (mg S a) (mg S b) t).1 80 - 1) (by omega) (by omega), v8]
      have hx := r8 (plen (mu p (mg S a) (mg S b) t).1 80 - 1)
      have hib := inv_bd (x := (mu p (mg S a) (mg S b) t).1 (plen (mu p (mg S a) (mg S b) t).1 80 - 1)) hP
      have W2 : MdW p sh (mset S1 8 (pscal p (inv p ((mu p (mg S a) (mg S b) t).1 (plen (mu p (mg S a) (mg S b) t).1 80 - 1))) (mu p (mg S a) (mg S b) t).1)) := MdW_set W1 (fun j => em_bd (by omega))
      refine S_aload_n (pc := 164) dX10_common_164 rfl ?_
      refine G_bipush (pc := 165) dX10_common_165 rfl ?_
      refine S_callV (pc := 167) (ci := 10) (d2 := 1) (mc2 := 0) (ms2 := 0) (As := [_]) dX10_common_167 kX10_length lkX10_94 (by assumption) rfl rfl rfl (Nat.le_of_ble_eq_true rfl) ⟨by decide, by decide⟩ (by decide) ?_
      refine c_X10_length W1 (by omega) ?_
      rw [v8]
      show G _ _ _ _ _ _ _ _ _ _ _ _ _
      refine G_if_ne_t (pc := 170) 174 dX10_common_170 rfl (by omega) (by omega) ?_
      refine S_aload_n (pc := 174) dX10_common_174 rfl ?_
      refine S_aload_n (pc := 175) dX10_common_175 rfl ?_
      refine S_getR (pc := 176) dX10_common_176 fX10_13 (by assumption) rfl (by assumption) ?_
      refine G_sipush (pc := 179) dX10_common_179 rfl ?_
      refine S_aload_n (pc := 182) dX10_common_182 rfl ?_
      refine G_bipush (pc := 183) dX10_common_183 rfl ?_
      refine S_callV (pc := 185) (ci := 10) (d2 := 1) (mc2 := 0) (ms2 := 0) (As := [_]) dX10_common_185 kX10_length lkX10_94 (by assumption) rfl rfl rfl (Nat.le_of_ble_eq_true rfl) ⟨by decide, by decide⟩ (by decide) ?_
      refine c_X10_length W1 (by omega) ?_
      rw [v8]
      show G _ _ _ _ _ _ _ _ _ _ _ _ _
      refine G_iadd (pc := 188) dX10_common_188 ?_
      refine G_iconst (pc := 189) dX10_common_189 ?_
      refine G_isub (pc := 190) dX10_common_190 ?_
      refine S_iald (pc := 191) dX10_common_191 (by assumption) (by omega) ?_
      rw [e1]
      refine S_callV (pc := 192) (ci := 10) (d2 := 2) (mc2 := 0) (ms2 := 0) (As := [_]) dX10_common_192 kX10_inverse lkX10_266 (by assumption) rfl rfl rfl (Nat.le_of_ble_eq_true rfl) ⟨by decide, by decide⟩ (by decide) ?_
      refine c_X10_inverse W1 hx ?_
      show G _ _ _ _ _ _ _ _ _ _ _ _ _
      refine G_istore_n (pc := 195) (ls' := [(3, _), (0, _)]) dX10_common_195 (by decide) rfl ?_
      refine S_aload_n (pc := 196) dX10_common_196 rfl ?_
      refine G_bipush (pc := 197) dX10_common_197 rfl ?_
      refine G_iload_n (pc := 199) dX10_common_199 rfl ?_
      refine S_callV (pc := 200) (ci := 10) (d2 := 1) (mc2 := 0) (ms2 := 0) (As := [_, _]) dX10_common_200 kX10_scale lkX10_272 (by assumption) rfl rfl rfl (Nat.le_of_ble_eq_true rfl) ⟨by decide, by decide⟩ (by decide) ?_
      refine c_X10_scale W1 (by omega) hib ?_
      rw [v8]
      show G _ _ _ _ _ _ _ _ _ _ _ _ _
      refine S_aload_n (pc := 203) dX10_common_203 rfl ?_
      refine G_bipush (pc := 204) dX10_common_204 rfl ?_
      refine G_iload_n (pc := 206) dX10_common_206 rfl ?_
      refine S_callV (pc := 207) (ci := 10) (d2 := 1) (mc2 := 0) (ms2 := 0) (As := [_, _]) dX10_common_207 kX10_scale lkX10_272 (by assumption) rfl rfl rfl (Nat.le_of_ble_eq_true rfl) ⟨by decide, by decide⟩ (by decide) ?_
      refine c_X10_scale W2 (by omega) hib ?_
      rw [mg_ne (r' := 12) (by decide), v12]
      show G _ _ _ _ _ _ _ _ _ _ _ _ _
      refine G_vret (pc := 210) dX10_common_210 rfl (by decide) ?_
      refine hq t _ (MRel_set (MRel_set hR (by decide)) (by decide)) (MdW_set W2 (fun j => em_bd (by omega))) hs ht ?_ ?_
      · rw [mg_ne (by decide), mg_set (pscal_sup s8)]
      · rw [if_neg hc, mg_set (pscal_sup s12)]
  have W1 : MdW p sh (mset S 8 (mg S a)) := MdW_set hW (mg_red hW)
  have W2 : MdW p sh (mset (mset S 8 (mg S a)) 9 (mg S b)) := MdW_set W1 (mg_red hW)
  have W3 : MdW p sh (mset (mset (mset S 8 (mg S a)) 9 (mg S b)) 12 pz) := MdW_set W2 (Red_pz (by omega))
  have W3' : MdW p sh (mset (mset (mset S 8 (mg S a)) 9 (mg S b)) 12 one) := MdW_set W2 (one_red hP)
  refine GCall.of (by decide) (Nat.le_of_ble_eq_true rfl) (ls := [(0, _), (1, _), (2, _)]) rfl ?_
  refine S_aload_n (pc := 0) dX10_common_0 rfl ?_
  refine G_iload_n (pc := 1) dX10_common_1 rfl ?_
  refine G_bipush (pc := 2) dX10_common_2 rfl ?_
  refine S_callV (pc := 4) (ci := 10) (d2 := 1) (mc2 := 0) (ms2 := 0) (As := [_, _]) dX10_common_4 kX10_copy lkX10_90 (by assumption) rfl rfl rfl (Nat.le_of_ble_eq_true rfl) ⟨by decide, by decide⟩ (by decide) ?_
  refine c_X10_copy hW (by omega) (by omega) ?_
  show G _ _ _ _ _ _ _ _ _ _ _ _ _
  refine S_aload_n (pc := 7) dX10_common_7 rfl ?_
  refine G_iload_n (pc := 8) dX10_common_8 rfl ?_
  refine G_bipush (pc := 9) dX10_common_9 rfl ?_
  refine S_callV (pc := 11) (ci := 10) (d2 := 1) (mc2 := 0) (ms2 := 0) (As := [_, _]) dX10_common_11 kX10_copy lkX10_90 (by assumption) rfl rfl rfl (Nat.le_of_ble_eq_true rfl) ⟨by decide, by decide⟩ (by decide) ?_
  refine c_X10_copy W1 (by omega) (by omega) ?_
  rw [mg_ne (r' := b) (by omega)]
  show G _ _ _ _ _ _ _ _ _ _ _ _ _
  refine S_aload_n (pc := 14) dX10_common_14 rfl ?_
  refine G_bipush (pc := 15) dX10_common_15 rfl ?_
  refine S_callV (pc := 17) (ci := 10) (d2 := 1) (mc2 := 0) (ms2 := 0) (As := [_]) dX10_common_17 kX10_empty lkX10_105 (by assumption) rfl rfl rfl (Nat.le_of_ble_eq_true rfl) ⟨by decide, by decide⟩ (by decide) ?_
  refine c_X10_empty W2 (by omega) ?_
  show G _ _ _ _ _ _ _ _ _ _ _ _ _
  refine S_aload_n (pc := 20) dX10_common_20 rfl ?_
  refine G_bipush (pc := 21) dX10_common_21 rfl ?_
  refine S_callV (pc := 23) (ci := 10) (d2 := 1) (mc2 := 0) (ms2 := 0) (As := [_]) dX10_common_23 kX10_empty lkX10_105 (by assumption) rfl rfl rfl (Nat.le_of_ble_eq_true rfl) ⟨by decide, by decide⟩ (by decide) ?_
  refine c_X10_empty W3 (by omega) ?_
  show G _ _ _ _ _ _ _ _ _ _ _ _ _
  refine S_aload_n (pc := 26) dX10_common_26 rfl ?_
  refine S_getR (pc := 27) dX10_common_27 fX10_13 (by assumption) rfl (by assumption) ?_
  refine G_sipush (pc := 30) dX10_common_30 rfl ?_
  refine G_iconst (pc := 33) dX10_common_33 ?_
  refine S_iast (pc := 34) dX10_common_34 (by assumption) (by omega) ?_
  rw [show (960 : Int) = 80 * 12 + 0 by omega, mset_comm (r := 12) (s := 13) (by decide), mset_setA (by omega), show iup pz 0 1 = one from rfl, mset_comm (r := 13) (s := 12) (by decide)]
  refine G_ls (ls' := [(0, _)]) (lsub_c rfl lsub_n) ?_
  exact l_X10_common (S0 := S) hP hroom hend (plen (mg S b) 80).toNat 0 _ (by show plen (mg S b) 80 ≤ _; omega) (MRel_set (MRel_set (MRel_set (MRel_set MRel_rf (by decide)) (by decide)) (by decide)) (by decide)) (MdW_set W3' (Red_pz (by omega))) ⟨by rw [mg_ne (by decide), mg_ne (by decide), mg_ne (by decide), mg_set mg_sup]; rfl, by rw [mg_ne (by decide), mg_ne (by decide), mg_set mg_sup]; rfl, by rw [mg_ne (by decide), mg_set (one_sup (by decide))]; rfl, by rw [mg_set Sup_pz]; rfl⟩ (fun s hs => absurd hs (by omega))
set_option maxRecDepth 100000 in
set_option maxHeartbeats 4000000 in
theorem c_X10_gcd {g : GC} {p t0 a b : Int} {sh : SH} {S : SS} {n : Nat} {Q : Option Value → GA → Nat → Prop} (hW : MdW p sh S) (hr : (-2147483648 ≤ t0 ∧ t0 ≤ 2147483647) ∧ (-2147483648 ≤ a ∧ a ≤ 2147483647) ∧ (-2147483648 ≤ b ∧ b ≤ 2147483647)) (h0 : ¬ ((0 ≤ t0 ∧ t0 < 8) ∧ (0 ≤ a ∧ a < 8) ∧ (0 ≤ b ∧ b < 8)) → Q (some (.int (iI (-2)))) (hp g sh S) n)
    (hroom : (0 ≤ a ∧ a < 8) → (0 ≤ b ∧ b < 8) → ∀ t : Nat, (∀ s : Nat, s ≤ t → 0 < plen (mu p (mg S a) (mg S b) s).2.1 80) → plen (pdiv p (mu p (mg S a) (mg S b) t).1 (mu p (mg S a) (mg S b) t).2.1 (plen (mu p (mg S a) (mg S b) t).1 80) (plen (mu p (mg S a) (mg S b) t).2.1 80)).1 80 + plen (mu p (mg S a) (mg S b) t).2.2.2 80 ≤ 81)
    (h1 : (0 ≤ t0 ∧ t0 < 8) → (0 ≤ a ∧ a < 8) → (0 ≤ b ∧ b < 8) → ∀ (t : Nat) (S' : SS) (x : Int → Int), MRel S S' → MdW p sh S' → (∀ s : Nat, s < t → 0 < plen (mu p (mg S a) (mg S b) s).2.1 80) → plen (mu p (mg S a) (mg S b) t).2.1 80 = 0 → x = pscal p (inv p ((mu p (mg S a) (mg S b) t).1 (plen (mu p (mg S a) (mg S b) t).1 80 - 1))) (mu p (mg S a) (mg S b) t).1 → Q (some (.int (iI (plen x 80)))) (hp g sh (mset S' t0 x)) n) :
    GCall g mX10_gcd 6 0 0 [gr g 96, .int (iI t0), .int (iI a), .int (iI b)] (hp g sh S) n Q := by
  have hW' := hW
  obtain ⟨hP, h96, hp1, p2, h97, hred⟩ := hW'
  obtain ⟨hr1, hr2, hr3⟩ := hr
  refine GCall.of (by decide) (Nat.le_of_ble_eq_true rfl) (ls := [(0, _), (1, _), (2, _), (3, _)]) rfl ?_
  have hgo : (0 ≤ t0 ∧ t0 < 8) → (0 ≤ a ∧ a < 8) → (0 ≤ b ∧ b < 8) → ∀ (t : Nat) (S' : SS), MRel S S' → MdW p sh S' → (∀ s : Nat, s < t → 0 < plen (mu p (mg S a) (mg S b) s).2.1 80) → plen (mu p (mg S a) (mg S b) t).2.1 80 = 0 → mg S' 8 = pscal p (inv p ((mu p (mg S a) (mg S b) t).1 (plen (mu p (mg S a) (mg S b) t).1 80 - 1))) (mu p (mg S a) (mg S b) t).1 → G g mX10_gcd 6 0 0 25 [(0, gr g 96), (1, .int (iI t0)), (2, .int (iI a)), (3, .int (iI b))] [] (hp g sh S') n 0 0 Q := by
    intro ht ha hb t S' hR W2 hs he v8
    have h96' := W2.2.1
    refine S_aload_n (pc := 25) dX10_gcd_25 rfl ?_
    refine G_iload_n (pc := 26) dX10_gcd_26 rfl ?_
    refine G_bipush (pc := 27) dX10_gcd_27 rfl ?_
    refine S_callV (pc := 29) (ci := 10) (d2 := 2) (mc2 := 0) (ms2 := 0) (As := [_, _]) dX10_gcd_29 kX10_comes lkX10_109 (by assumption) rfl rfl rfl (Nat.le_of_ble_eq_true rfl) ⟨by decide, by decide⟩ (by decide) ?_
    refine c_X10_comes W2 (by omega) (by omega) ?_
    show G _ _ _ _ _ _ _ _ _ _ _ _ _
    refine G_iret (pc := 32) dX10_gcd_32 rfl (by decide) ?_
    exact h1 ht ha hb t S' _ hR W2 hs he v8
  refine G_iload_n (pc := 0) dX10_gcd_0 rfl ?_
  refine G_callS (pc := 1) (d2 := 2) (mc2 := 0) (ms2 := 0) (As := [_]) dX10_gcd_1 kX10_isPoly lkX10_98 rfl rfl (Nat.le_of_ble_eq_true rfl) ⟨by decide, by decide⟩ (by decide) ?_
  refine c_X10_isPoly (by omega) (fun w1 => ?_) (fun w1 => ?_)
  · show G _ _ _ _ _ _ _ _ _ _ _ _ _
    refine G_if_eq_f (pc := 4) 16 dX10_gcd_4 rfl (by decide) (by decide) ?_
    refine S_aload_n (pc := 7) dX10_gcd_7 rfl ?_
    refine G_iload_n (pc := 8) dX10_gcd_8 rfl ?_
    refine G_iload_n (pc := 9) dX10_gcd_9 rfl ?_
    refine S_callV (pc := 10) (ci := 10) (d2 := 3) (mc2 := 0) (ms2 := 0) (As := [_, _]) dX10_gcd_10 kX10_areBad lkX10_133 (by assumption) rfl rfl rfl (Nat.le_of_ble_eq_true rfl) ⟨by decide, by decide⟩ (by decide) ?_
    refine c_X10_areBad h96 (by omega) (fun w10 => ?_) (fun w10 => ?_)
    · show G _ _ _ _ _ _ _ _ _ _ _ _ _
      refine G_if_eq_f (pc := 13) 19 dX10_gcd_13 rfl (by decide) (by decide) ?_
      refine G_bipush (pc := 16) dX10_gcd_16 rfl ?_
      refine G_iret (pc := 18) dX10_gcd_18 rfl (by decide) ?_
      exact h0 (by omega)
    · show G _ _ _ _ _ _ _ _ _ _ _ _ _
      refine G_if_eq_t (pc := 13) 19 dX10_gcd_13 rfl (by decide) (by decide) ?_
      refine S_aload_n (pc := 19) dX10_gcd_19 rfl ?_
      refine G_iload_n (pc := 20) dX10_gcd_20 rfl ?_
      refine G_iload_n (pc := 21) dX10_gcd_21 rfl ?_
      refine S_callV (pc := 22) (ci := 10) (d2 := 5) (mc2 := 0) (ms2 := 0) (As := [_, _]) dX10_gcd_22 kX10_common lkX10_275 (by assumption) rfl rfl rfl (Nat.le_of_ble_eq_true rfl) ⟨by decide, by decide⟩ (by decide) ?_
      refine c_X10_common hW (by omega) (by omega) (hroom (by omega) (by omega)) (fun t S' hR W2 hs he v8 v12 => ?_)
      exact hgo (by omega) (by omega) (by omega) t S' hR W2 hs he v8
  · show G _ _ _ _ _ _ _ _ _ _ _ _ _
    refine G_if_eq_t (pc := 4) 16 dX10_gcd_4 rfl (by decide) (by decide) ?_
    refine G_bipush (pc := 16) dX10_gcd_16 rfl ?_
    refine G_iret (pc := 18) dX10_gcd_18 rfl (by decide) ?_
    exact h0 (by omega)
