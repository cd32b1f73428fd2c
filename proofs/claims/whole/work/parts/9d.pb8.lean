/-! PolyBench: lay, fill, right -/
theorem ShW_put {sh : SH} {S : SS} {s a N : Nat} {xs : Int → Int} (h : ShW sh S s) (h1 : s ≠ a) (h2 : s + 1 ≠ a + 1) : ShW sh (rput S a xs N) s := by
  obtain ⟨h1', h2', h3, h4, h5, h6⟩ := h
  exact ⟨h1', h2', h3, by rw [rput_F (Or.inl h1)]; exact h4, by rw [rput_F (Or.inl h1)]; exact h5, by rw [rput_A h2]; exact h6⟩
def PsI (S : SS) : Prop := ∀ i j : Int, 0 ≤ i → i < 4 → -2147483648 ≤ S.2.1 (sa i + 1) j ∧ S.2.1 (sa i + 1) j ≤ 2147483647
theorem lyd_s32 {p : Int} {xs : Int → Int} {lo t : Int} {N : Nat} (h : t ≤ N) : Sup (lyd p xs lo t) N := fun j hj => if_neg (by omega)
set_option maxRecDepth 100000 in
set_option maxHeartbeats 4000000 in
theorem l_X9_lay {g : GC} {p a s so at_ nn : Int} {sh : SH} {S : SS} {n : Nat} {Q : Option Value → GA → Nat → Prop} (hW : PbW p sh S) (hS : PsW sh S) (hI : PsI S) (ha : 0 ≤ a ∧ a < 8) (hs : 0 ≤ s ∧ s < 4) (hnn : 0 ≤ nn ∧ nn ≤ 32) (hat : 0 < nn → 0 ≤ at_ ∧ at_ ≤ S.1 (sa s) 1 - nn) (hk : G g mX9_lay 5 0 0 155 [(6, gr g (sa s)), (0, gr g 0), (1, .int (iI a)), (2, .int (iI s)), (3, .int (iI so)), (4, .int (iI at_)), (5, .int (iI nn))] [] (hp g sh (rput S 2 (lyd p (S.2.1 (sa s + 1)) at_ nn) 64)) n 0 0 Q) : ∀ (k : Nat) (i : Int), i + k = nn → 0 ≤ i → G g mX9_lay 5 0 0 115 [(7, .int (iI i)), (6, gr g (sa s)), (0, gr g 0), (1, .int (iI a)), (2, .int (iI s)), (3, .int (iI so)), (4, .int (iI at_)), (5, .int (iI nn))] [] (hp g sh (rput S 2 (lyd p (S.2.1 (sa s + 1)) at_ i) 64)) n 0 0 Q := by
  have hW' := hW
  obtain ⟨hK, hA, hMd, hPo⟩ := hW'
  obtain ⟨k0, q0, q1, q2, q3, q4, q7, q8, q9, q12, q13, q14, s1, s4, s9, s10, s11, f1, f2, f3⟩ := hK
  have hP := hA.1.1
  have hRs := hA.1.2.1
  have hpb := hP.bd
  have h12 := hRs.1
  have h13 := hA.1.2.2.1
  have h2s := hMd.1.1
  have hsb := (hS s hs.1 hs.2).2.2.2.2.1
  intro k
  induction k with
  | zero =>
    intro i hi h0
    have e : i = nn := by omega
    subst e
    refine G_iload (pc := 115) dX9_lay_115 rfl ?_
    refine G_iload (pc := 117) dX9_lay_117 rfl ?_
    refine G_icmp_ge_t (pc := 119) 155 dX9_lay_119 rfl (by omega) (by omega) ?_
    refine G_ls (ls' := [(6, _), (0, _), (1, _), (2, _), (3, _), (4, _), (5, _)]) (lsub_c rfl (lsub_c rfl (lsub_c rfl (lsub_c rfl (lsub_c rfl (lsub_c rfl (lsub_c rfl lsub_n))))))) ?_
    exact hk
  | succ k ih =>
    intro i hi h0
    have hn := ih (i + 1) (by omega) (by omega)
    have h1 := hat (by omega)
    obtain ⟨W1, s1', e1⟩ := PbW_put (xs := (lyd p (S.2.1 (sa s + 1)) at_ i)) hW (lyd_s32 (by omega)) (lyd_red (by omega))
    have S1 := ShW_put (xs := (lyd p (S.2.1 (sa s + 1)) at_ i)) (a := 2) (N := 64) (hS s hs.1 hs.2) (by unfold sa; omega) (by unfold sa; omega)
    have eS : (rput S 2 (lyd p (S.2.1 (sa s + 1)) at_ i) 64).1 (sa s) 1 = S.1 (sa s) 1 := rput_F (Or.inl (by unfold sa; omega))
    have eA : (rput S 2 (lyd p (S.2.1 (sa s + 1)) at_ i) 64).2.1 (sa s + 1) = S.2.1 (sa s + 1) := rput_A (by unfold sa; omega)
    have hem := em_bd (z := S.2.1 (sa s + 1) (at_ + i)) (p := p) (by omega)
    have hxb := hI s (at_ + i) hs.1 hs.2
    have ev2 : rput (rput S 2 (lyd p (S.2.1 (sa s + 1)) at_ i) 64) 2 (iup (rv (rput S 2 (lyd p (S.2.1 (sa s + 1)) at_ i) 64) 2) i (S.2.1 (sa s + 1) (at_ + i) % p)) 64 = rput S 2 (lyd p (S.2.1 (sa s + 1)) at_ (i + 1)) 64 := by
      rw [rput_rput, rput_rv, lyd_S h0]
    refine G_iload (pc := 115) dX9_lay_115 rfl ?_
    refine G_iload (pc := 117) dX9_lay_117 rfl ?_
    refine G_icmp_ge_f (pc := 119) 155 dX9_lay_119 rfl (by omega) (by omega) ?_
    refine S_aload_n (pc := 122) dX9_lay_122 rfl ?_
    refine S_getR (pc := 123) dX9_lay_123 fX9_18 (by assumption) rfl (by assumption) ?_
    refine G_iload (pc := 126) dX9_lay_126 rfl ?_
    refine S_aload_n (pc := 128) dX9_lay_128 rfl ?_
    refine S_getR (pc := 129) dX9_lay_129 fX9_54 (by assumption) rfl (by assumption) ?_
    refine S_aload (pc := 132) dX9_lay_132 rfl ?_
    refine G_iload (pc := 134) dX9_lay_134 rfl ?_
    refine G_iload (pc := 136) dX9_lay_136 rfl ?_
    refine G_iadd (pc := 138) dX9_lay_138 ?_
    refine S_callV (pc := 139) (ci := 5) (d2 := 2) (mc2 := 0) (ms2 := 0) (As := [_]) dX9_lay_139 kX5_read lkX9_267 S1.1 rfl rfl rfl (Nat.le_of_ble_eq_true rfl) ⟨by decide, by decide⟩ (by decide) ?_
    refine c_X5_read S1 (by rw [eS]; omega) ?_
    rw [eA]
    show G _ _ _ _ _ _ _ _ _ _ _ _ _
    refine G_i2l (pc := 142) dX9_lay_142 (by omega) ?_
    refine S_callV (pc := 143) (ci := 3) (d2 := 1) (mc2 := 0) (ms2 := 0) (As := [_]) dX9_lay_143 kX3_rest lkX9_119 (by assumption) rfl rfl rfl (Nat.le_of_ble_eq_true rfl) ⟨by decide, by decide⟩ (by decide) ?_
    refine c_X3_rest W1.2.1.1.2.1 hP (by omega) ?_
    show G _ _ _ _ _ _ _ _ _ _ _ _ _
    refine S_callV (pc := 146) (ci := 4) (d2 := 1) (mc2 := 0) (ms2 := 0) (As := [_, _]) dX9_lay_146 kX4_set lkX9_123 (by assumption) rfl rfl rfl (Nat.le_of_ble_eq_true rfl) ⟨by decide, by decide⟩ (by decide) ?_
    refine c_X4_set W1.2.2.1 (by omega) (by omega) (by omega) ?_
    rw [ev2]
    show G _ _ _ _ _ _ _ _ _ _ _ _ _
    refine G_iinc (pc := 149) (ls' := [(7, _), (6, _), (0, _), (1, _), (2, _), (3, _), (4, _), (5, _)]) dX9_lay_149 rfl (by decide) rfl ?_
    refine G_goto (pc := 152) 115 dX9_lay_152 rfl ?_
    exact hn
set_option maxRecDepth 100000 in
set_option maxHeartbeats 4000000 in
theorem c_X9_lay {g : GC} {p a s so at_ nn : Int} {sh : SH} {S : SS} {n : Nat} {Q : Option Value → GA → Nat → Prop} (hW : PbW p sh S) (hS : PsW sh S) (hI : PsI S) (hr : (-2147483648 ≤ a ∧ a ≤ 2147483647) ∧ (-2147483648 ≤ s ∧ s ≤ 2147483647) ∧ (-2147483648 ≤ so ∧ so ≤ 2147483647) ∧ (-2147483648 ≤ at_ ∧ at_ ≤ 2147483647) ∧ (-2147483648 ≤ nn ∧ nn ≤ 2147483647)) (h0 : ¬ ((0 ≤ a ∧ a < 8) ∧ (0 ≤ s ∧ s < 4) ∧ (0 ≤ so ∧ so ≤ 2) ∧ (0 ≤ nn ∧ nn ≤ 32)) → Q (some (.int (iI (-2)))) (hp g sh S) n)
    (h1 : (0 ≤ a ∧ a < 8) → (0 ≤ s ∧ s < 4) → (0 ≤ so ∧ so ≤ 2) → (0 ≤ nn ∧ nn ≤ 32) → S.1 (sa s) 0 ≠ -1 → S.1 (sa s) 0 ≠ so → Q (some (.int (iI (-13)))) (hp g sh S) n)
    (h2 : (0 ≤ a ∧ a < 8) → (0 ≤ s ∧ s < 4) → (0 ≤ so ∧ so ≤ 2) → (0 ≤ nn ∧ nn ≤ 32) → S.1 (sa s) 0 = -1 → Q (some (.int (iI (-11)))) (hp g sh S) n)
    (h3 : (0 ≤ a ∧ a < 8) → (0 ≤ s ∧ s < 4) → (0 ≤ so ∧ so ≤ 2) → (0 ≤ nn ∧ nn ≤ 32) → S.1 (sa s) 0 ≠ -1 → S.1 (sa s) 0 = so → ¬ (0 < nn → 0 ≤ at_ ∧ at_ ≤ S.1 (sa s) 1 - nn) → Q (some (.int (iI (-12)))) (hp g sh S) n)
    (h4 : (0 ≤ a ∧ a < 8) → (0 ≤ s ∧ s < 4) → (0 ≤ so ∧ so ≤ 2) → (0 ≤ nn ∧ nn ≤ 32) → S.1 (sa s) 0 ≠ -1 → S.1 (sa s) 0 = so → (0 < nn → 0 ≤ at_ ∧ at_ ≤ S.1 (sa s) 1 - nn) → ∀ S' : SS, PbE p sh S a (lyd p (S.2.1 (sa s + 1)) at_ nn) S' → Q (some (.int (iI (plen (lyd p (S.2.1 (sa s + 1)) at_ nn) 32)))) (hp g sh S') n) : GCall g mX9_lay 5 0 0 [gr g 0, .int (iI a), .int (iI s), .int (iI so), .int (iI at_), .int (iI nn)] (hp g sh S) n Q := by
  have hW' := hW
  obtain ⟨hK, hA, hMd, hPo⟩ := hW'
  obtain ⟨k0, q0, q1, q2, q3, q4, q7, q8, q9, q12, q13, q14, s1, s4, s9, s10, s11, f1, f2, f3⟩ := hK
  have hP := hA.1.1
  have hRs := hA.1.2.1
  have hpb := hP.bd
  have h12 := hRs.1
  have h13 := hA.1.2.2.1
  have h2s := hMd.1.1
  refine GCall.of (by decide) (Nat.le_of_ble_eq_true rfl) (ls := [(0, _), (1, _), (2, _), (3, _), (4, _), (5, _)]) rfl ?_
  have hb : (0 ≤ s ∧ s < 4) → (-1 ≤ S.1 (sa s) 0 ∧ S.1 (sa s) 0 ≤ 2) ∧ (0 ≤ S.1 (sa s) 1 ∧ S.1 (sa s) 1 ≤ 40) := fun z => ⟨(hS s z.1 z.2).2.2.2.1, (hS s z.1 z.2).2.2.2.2.1⟩
  have Kf : (0 ≤ a ∧ a < 8) → (0 ≤ s ∧ s < 4) → (0 ≤ so ∧ so ≤ 2) → (0 ≤ nn ∧ nn ≤ 32) → S.1 (sa s) 0 ≠ -1 → S.1 (sa s) 0 = so → (0 < nn → 0 ≤ at_ ∧ at_ ≤ S.1 (sa s) 1 - nn) → G g mX9_lay 5 0 0 105 [(6, gr g (sa s)), (0, gr g 0), (1, .int (iI a)), (2, .int (iI s)), (3, .int (iI so)), (4, .int (iI at_)), (5, .int (iI nn))] [] (hp g sh S) n 0 0 Q := by
    intro ca cs cso cn z1 z2 z3
    obtain ⟨W1, s1', e1⟩ := PbW_put (xs := (lyd p (S.2.1 (sa s + 1)) at_ nn)) hW (lyd_s32 (by omega)) (lyd_red (by omega))
    have hX : Sup (lyd p (S.2.1 (sa s + 1)) at_ nn) 32 := lyd_s32 (by omega)
    have hE := PbE_bec W1 s1' e1 ca W1.2.2.1
    rw [rput_rv, clip_len hX] at hE
    have hq := h4 ca cs cso cn z1 z2 z3 _ hE
    have K155 : G g mX9_lay 5 0 0 155 [(6, gr g (sa s)), (0, gr g 0), (1, .int (iI a)), (2, .int (iI s)), (3, .int (iI so)), (4, .int (iI at_)), (5, .int (iI nn))] [] (hp g sh (rput S 2 (lyd p (S.2.1 (sa s + 1)) at_ nn) 64)) n 0 0 Q := by
      refine S_aload_n (pc := 155) dX9_lay_155 rfl ?_
      refine G_iload_n (pc := 156) dX9_lay_156 rfl ?_
      refine S_aload_n (pc := 157) dX9_lay_157 rfl ?_
      refine S_getR (pc := 158) dX9_lay_158 fX9_18 (by assumption) rfl (by assumption) ?_
      refine S_callV (pc := 161) (ci := 9) (d2 := 4) (mc2 := 0) (ms2 := 0) (As := [_, _]) dX9_lay_161 kX9_become lkX9_144 (by assumption) rfl rfl rfl (Nat.le_of_ble_eq_true rfl) ⟨by decide, by decide⟩ (by decide) ?_
      refine c_X9_become W1 ca W1.2.2.1 (Ne.symm (pl_ne (by decide))) ?_
      rw [rput_rv, clip_len hX]
      show G _ _ _ _ _ _ _ _ _ _ _ _ _
      refine G_iret (pc := 164) dX9_lay_164 rfl (by decide) ?_
      exact hq
    have hl := l_X9_lay hW hS hI ca cs cn z3 K155 nn.toNat 0 (by omega) (Int.le_refl _)
    rw [lyd_0] at hl
    refine S_aload_n (pc := 105) dX9_lay_105 rfl ?_
    refine S_getR (pc := 106) dX9_lay_106 fX9_18 (by assumption) rfl (by assumption) ?_
    refine S_callV (pc := 109) (ci := 4) (d2 := 1) (mc2 := 0) (ms2 := 0) (As := []) dX9_lay_109 kX4_wipe lkX9_131 (by assumption) rfl rfl rfl (Nat.le_of_ble_eq_true rfl) ⟨by decide, by decide⟩ (by decide) ?_
    refine c_X4_wipe hMd ?_
    show G _ _ _ _ _ _ _ _ _ _ _ _ _
    refine G_iconst (pc := 112) dX9_lay_112 ?_
    refine G_istore (pc := 113) (ls' := [(7, _), (6, _), (0, _), (1, _), (2, _), (3, _), (4, _), (5, _)]) dX9_lay_113 (by decide) rfl ?_
    exact hl
  refine G_iload_n (pc := 0) dX9_lay_0 rfl ?_
  refine G_callS (pc := 1) (d2 := 2) (mc2 := 0) (ms2 := 0) (As := [_]) dX9_lay_1 kX9_isPoly lkX9_107 rfl rfl (Nat.le_of_ble_eq_true rfl) ⟨by decide, by decide⟩ (by decide) ?_
  refine c_X9_isPoly (by omega) (fun w1 => ?_) (fun w1 => ?_)
  · show G _ _ _ _ _ _ _ _ _ _ _ _ _
    refine G_if_eq_f (pc := 4) 35 dX9_lay_4 rfl (by decide) (by decide) ?_
    refine G_iload_n (pc := 7) dX9_lay_7 rfl ?_
    refine G_iconst (pc := 8) dX9_lay_8 ?_
    refine G_callS (pc := 9) (d2 := 1) (mc2 := 0) (ms2 := 0) (As := [_, _]) dX9_lay_9 kX9_isWithin lkX9_111 rfl rfl (Nat.le_of_ble_eq_true rfl) ⟨by decide, by decide⟩ (by decide) ?_
    refine c_X9_isWithin (by omega) (fun w9 => ?_) (fun w9 => ?_)
    · show G _ _ _ _ _ _ _ _ _ _ _ _ _
      refine G_if_eq_f (pc := 12) 35 dX9_lay_12 rfl (by decide) (by decide) ?_
      refine G_iload_n (pc := 15) dX9_lay_15 rfl ?_
      refine G_iconst (pc := 16) dX9_lay_16 ?_
      refine G_callS (pc := 17) (d2 := 1) (mc2 := 0) (ms2 := 0) (As := [_, _]) dX9_lay_17 kX9_isWithin lkX9_111 rfl rfl (Nat.le_of_ble_eq_true rfl) ⟨by decide, by decide⟩ (by decide) ?_
      refine c_X9_isWithin (by omega) (fun w17 => ?_) (fun w17 => ?_)
      · show G _ _ _ _ _ _ _ _ _ _ _ _ _
        refine G_if_eq_f (pc := 20) 35 dX9_lay_20 rfl (by decide) (by decide) ?_
        refine G_iload (pc := 23) dX9_lay_23 rfl ?_
        refine G_if_lt (pc := 25) 35 dX9_lay_25 rfl (by omega) (fun c25 => ?_) (fun c25 => ?_)
        · skip
          refine G_bipush (pc := 35) dX9_lay_35 rfl ?_
          refine G_iret (pc := 37) dX9_lay_37 rfl (by decide) ?_
          first | exact h0 (by omega) | exact h1 w1 w9 (by omega) (by omega) (by omega) (by omega) | exact h2 w1 w9 (by omega) (by omega) (by omega) | exact h3 w1 w9 (by omega) (by omega) (by omega) (by omega) (by omega)
        · skip
          refine G_iload (pc := 28) dX9_lay_28 rfl ?_
          refine G_bipush (pc := 30) dX9_lay_30 rfl ?_
          refine G_icmp_le (pc := 32) 38 dX9_lay_32 rfl (by omega) (fun c32 => ?_) (fun c32 => ?_)
          · skip
            refine S_aload_n (pc := 38) dX9_lay_38 rfl ?_
            refine S_getR (pc := 39) dX9_lay_39 fX9_47 (by assumption) rfl (by assumption) ?_
            refine G_iload_n (pc := 42) dX9_lay_42 rfl ?_
            refine S_aald (pc := 43) dX9_lay_43 (by assumption) rfl (by omega) (f3 _ w9.1 w9.2) ?_
            refine S_astore (pc := 44) (ls' := [(6, _), (0, _), (1, _), (2, _), (3, _), (4, _), (5, _)]) dX9_lay_44 (by decide) rfl ?_
            refine S_aload (pc := 46) dX9_lay_46 rfl ?_
            refine S_callV (pc := 48) (ci := 5) (d2 := 1) (mc2 := 0) (ms2 := 0) (As := []) dX9_lay_48 kX5_sort lkX9_261 (hS s w9.1 w9.2).1 rfl rfl rfl (Nat.le_of_ble_eq_true rfl) ⟨by decide, by decide⟩ (by decide) ?_
            refine c_X5_sort (hS s w9.1 w9.2) ?_
            show G _ _ _ _ _ _ _ _ _ _ _ _ _
            have hbb := hb w9
            refine G_iconst (pc := 51) dX9_lay_51 ?_
            refine G_icmp_eq (pc := 52) 67 dX9_lay_52 rfl (by omega) (fun c52 => ?_) (fun c52 => ?_)
            · skip
              refine S_aload (pc := 67) dX9_lay_67 rfl ?_
              refine S_callV (pc := 69) (ci := 5) (d2 := 1) (mc2 := 0) (ms2 := 0) (As := []) dX9_lay_69 kX5_sort lkX9_261 (hS s w9.1 w9.2).1 rfl rfl rfl (Nat.le_of_ble_eq_true rfl) ⟨by decide, by decide⟩ (by decide) ?_
              refine c_X5_sort (hS s w9.1 w9.2) ?_
              show G _ _ _ _ _ _ _ _ _ _ _ _ _
              refine G_iconst (pc := 72) dX9_lay_72 ?_
              refine G_icmp_ne (pc := 73) 79 dX9_lay_73 rfl (by omega) (fun c73 => ?_) (fun c73 => ?_)
              · skip
                refine G_iload (pc := 79) dX9_lay_79 rfl ?_
                refine G_if_le (pc := 81) 105 dX9_lay_81 rfl (by omega) (fun c81 => ?_) (fun c81 => ?_)
                · skip
                  exact Kf w1 w9 (by omega) (by omega) (by omega) (by omega) (by omega)
                · skip
                  refine G_iload (pc := 84) dX9_lay_84 rfl ?_
                  refine G_if_lt (pc := 86) 102 dX9_lay_86 rfl (by omega) (fun c86 => ?_) (fun c86 => ?_)
                  · skip
                    refine G_bipush (pc := 102) dX9_lay_102 rfl ?_
                    refine G_iret (pc := 104) dX9_lay_104 rfl (by decide) ?_
                    first | exact h0 (by omega) | exact h1 w1 w9 (by omega) (by omega) (by omega) (by omega) | exact h2 w1 w9 (by omega) (by omega) (by omega) | exact h3 w1 w9 (by omega) (by omega) (by omega) (by omega) (by omega)
                  · skip
                    refine G_iload (pc := 89) dX9_lay_89 rfl ?_
                    refine S_aload (pc := 91) dX9_lay_91 rfl ?_
                    refine S_callV (pc := 93) (ci := 5) (d2 := 1) (mc2 := 0) (ms2 := 0) (As := []) dX9_lay_93 kX5_size lkX9_264 (hS s w9.1 w9.2).1 rfl rfl rfl (Nat.le_of_ble_eq_true rfl) ⟨by decide, by decide⟩ (by decide) ?_
                    refine c_X5_size (hS s w9.1 w9.2) ?_
                    show G _ _ _ _ _ _ _ _ _ _ _ _ _
                    refine G_iload (pc := 96) dX9_lay_96 rfl ?_
                    refine G_isub (pc := 98) dX9_lay_98 ?_
                    refine G_icmp_le (pc := 99) 105 dX9_lay_99 rfl (by omega) (fun c99 => ?_) (fun c99 => ?_)
                    · skip
                      exact Kf w1 w9 (by omega) (by omega) (by omega) (by omega) (by omega)
                    · skip
                      refine G_bipush (pc := 102) dX9_lay_102 rfl ?_
                      refine G_iret (pc := 104) dX9_lay_104 rfl (by decide) ?_
                      first | exact h0 (by omega) | exact h1 w1 w9 (by omega) (by omega) (by omega) (by omega) | exact h2 w1 w9 (by omega) (by omega) (by omega) | exact h3 w1 w9 (by omega) (by omega) (by omega) (by omega) (by omega)
              · skip
                refine G_bipush (pc := 76) dX9_lay_76 rfl ?_
                refine G_iret (pc := 78) dX9_lay_78 rfl (by decide) ?_
                first | exact h0 (by omega) | exact h1 w1 w9 (by omega) (by omega) (by omega) (by omega) | exact h2 w1 w9 (by omega) (by omega) (by omega) | exact h3 w1 w9 (by omega) (by omega) (by omega) (by omega) (by omega)
            · skip
              refine S_aload (pc := 55) dX9_lay_55 rfl ?_
              refine S_callV (pc := 57) (ci := 5) (d2 := 1) (mc2 := 0) (ms2 := 0) (As := []) dX9_lay_57 kX5_sort lkX9_261 (hS s w9.1 w9.2).1 rfl rfl rfl (Nat.le_of_ble_eq_true rfl) ⟨by decide, by decide⟩ (by decide) ?_
              refine c_X5_sort (hS s w9.1 w9.2) ?_
              show G _ _ _ _ _ _ _ _ _ _ _ _ _
              refine G_iload_n (pc := 60) dX9_lay_60 rfl ?_
              refine G_icmp_eq (pc := 61) 67 dX9_lay_61 rfl (by omega) (fun c61 => ?_) (fun c61 => ?_)
              · skip
                refine S_aload (pc := 67) dX9_lay_67 rfl ?_
                refine S_callV (pc := 69) (ci := 5) (d2 := 1) (mc2 := 0) (ms2 := 0) (As := []) dX9_lay_69 kX5_sort lkX9_261 (hS s w9.1 w9.2).1 rfl rfl rfl (Nat.le_of_ble_eq_true rfl) ⟨by decide, by decide⟩ (by decide) ?_
                refine c_X5_sort (hS s w9.1 w9.2) ?_
                show G _ _ _ _ _ _ _ _ _ _ _ _ _
                refine G_iconst (pc := 72) dX9_lay_72 ?_
                refine G_icmp_ne (pc := 73) 79 dX9_lay_73 rfl (by omega) (fun c73 => ?_) (fun c73 => ?_)
                · skip
                  refine G_iload (pc := 79) dX9_lay_79 rfl ?_
                  refine G_if_le (pc := 81) 105 dX9_lay_81 rfl (by omega) (fun c81 => ?_) (fun c81 => ?_)
                  · skip
                    exact Kf w1 w9 (by omega) (by omega) (by omega) (by omega) (by omega)
                  · skip
                    refine G_iload (pc := 84) dX9_lay_84 rfl ?_
                    refine G_if_lt (pc := 86) 102 dX9_lay_86 rfl (by omega) (fun c86 => ?_) (fun c86 => ?_)
                    · skip
                      refine G_bipush (pc := 102) dX9_lay_102 rfl ?_
                      refine G_iret (pc := 104) dX9_lay_104 rfl (by decide) ?_
                      first | exact h0 (by omega) | exact h1 w1 w9 (by omega) (by omega) (by omega) (by omega) | exact h2 w1 w9 (by omega) (by omega) (by omega) | exact h3 w1 w9 (by omega) (by omega) (by omega) (by omega) (by omega)
                    · skip
                      refine G_iload (pc := 89) dX9_lay_89 rfl ?_
                      refine S_aload (pc := 91) dX9_lay_91 rfl ?_
                      refine S_callV (pc := 93) (ci := 5) (d2 := 1) (mc2 := 0) (ms2 := 0) (As := []) dX9_lay_93 kX5_size lkX9_264 (hS s w9.1 w9.2).1 rfl rfl rfl (Nat.le_of_ble_eq_true rfl) ⟨by decide, by decide⟩ (by decide) ?_
                      refine c_X5_size (hS s w9.1 w9.2) ?_
                      show G _ _ _ _ _ _ _ _ _ _ _ _ _
                      refine G_iload (pc := 96) dX9_lay_96 rfl ?_
                      refine G_isub (pc := 98) dX9_lay_98 ?_
                      refine G_icmp_le (pc := 99) 105 dX9_lay_99 rfl (by omega) (fun c99 => ?_) (fun c99 => ?_)
                      · skip
                        exact Kf w1 w9 (by omega) (by omega) (by omega) (by omega) (by omega)
                      · skip
                        refine G_bipush (pc := 102) dX9_lay_102 rfl ?_
                        refine G_iret (pc := 104) dX9_lay_104 rfl (by decide) ?_
                        first | exact h0 (by omega) | exact h1 w1 w9 (by omega) (by omega) (by omega) (by omega) | exact h2 w1 w9 (by omega) (by omega) (by omega) | exact h3 w1 w9 (by omega) (by omega) (by omega) (by omega) (by omega)
                · skip
                  refine G_bipush (pc := 76) dX9_lay_76 rfl ?_
                  refine G_iret (pc := 78) dX9_lay_78 rfl (by decide) ?_
                  first | exact h0 (by omega) | exact h1 w1 w9 (by omega) (by omega) (by omega) (by omega) | exact h2 w1 w9 (by omega) (by omega) (by omega) | exact h3 w1 w9 (by omega) (by omega) (by omega) (by omega) (by omega)
              · skip
                refine G_bipush (pc := 64) dX9_lay_64 rfl ?_
                refine G_iret (pc := 66) dX9_lay_66 rfl (by decide) ?_
                first | exact h0 (by omega) | exact h1 w1 w9 (by omega) (by omega) (by omega) (by omega) | exact h2 w1 w9 (by omega) (by omega) (by omega) | exact h3 w1 w9 (by omega) (by omega) (by omega) (by omega) (by omega)
          · skip
            refine G_bipush (pc := 35) dX9_lay_35 rfl ?_
            refine G_iret (pc := 37) dX9_lay_37 rfl (by decide) ?_
            first | exact h0 (by omega) | exact h1 w1 w9 (by omega) (by omega) (by omega) (by omega) | exact h2 w1 w9 (by omega) (by omega) (by omega) | exact h3 w1 w9 (by omega) (by omega) (by omega) (by omega) (by omega)
      · show G _ _ _ _ _ _ _ _ _ _ _ _ _
        refine G_if_eq_t (pc := 20) 35 dX9_lay_20 rfl (by decide) (by decide) ?_
        refine G_bipush (pc := 35) dX9_lay_35 rfl ?_
        refine G_iret (pc := 37) dX9_lay_37 rfl (by decide) ?_
        first | exact h0 (by omega) | exact h1 w1 w9 (by omega) (by omega) (by omega) (by omega) | exact h2 w1 w9 (by omega) (by omega) (by omega) | exact h3 w1 w9 (by omega) (by omega) (by omega) (by omega) (by omega)
    · show G _ _ _ _ _ _ _ _ _ _ _ _ _
      refine G_if_eq_t (pc := 12) 35 dX9_lay_12 rfl (by decide) (by decide) ?_
      refine G_bipush (pc := 35) dX9_lay_35 rfl ?_
      refine G_iret (pc := 37) dX9_lay_37 rfl (by decide) ?_
      first | exact h0 (by omega) | exact h1 w1 w9 (by omega) (by omega) (by omega) (by omega) | exact h2 w1 w9 (by omega) (by omega) (by omega) | exact h3 w1 w9 (by omega) (by omega) (by omega) (by omega) (by omega)
  · show G _ _ _ _ _ _ _ _ _ _ _ _ _
    refine G_if_eq_t (pc := 4) 35 dX9_lay_4 rfl (by decide) (by decide) ?_
    refine G_bipush (pc := 35) dX9_lay_35 rfl ?_
    refine G_iret (pc := 37) dX9_lay_37 rfl (by decide) ?_
    first | exact h0 (by omega) | exact h1 w1 w9 (by omega) (by omega) (by omega) (by omega) | exact h2 w1 w9 (by omega) (by omega) (by omega) | exact h3 w1 w9 (by omega) (by omega) (by omega) (by omega) (by omega)
def D2 (a : Nat) : Prop := D1 a ∨ (33 ≤ a ∧ a ≤ 36)
theorem PbK_P {sh : SH} {S S' : SS} (e : ∀ (a : Nat) (k : Int), (a = 0 ∨ a = 1 ∨ a = 9 ∨ a = 11) → S'.2.2 a k = S.2.2 a k) (hK : PbK sh S) : PbK sh S' := by
  obtain ⟨k0, q0, q1, q2, q3, q4, q7, q8, q9, q12, q13, q14, s1, s4, s9, s10, s11, f1, f2, f3⟩ := hK
  exact ⟨k0, by rw [e 0 0 (by omega)]; exact q0, by rw [e 0 1 (by omega)]; exact q1, by rw [e 0 2 (by omega)]; exact q2, by rw [e 0 3 (by omega)]; exact q3, by rw [e 0 4 (by omega)]; exact q4, by rw [e 0 7 (by omega)]; exact q7, by rw [e 0 8 (by omega)]; exact q8, by rw [e 0 9 (by omega)]; exact q9, by rw [e 0 12 (by omega)]; exact q12, by rw [e 0 13 (by omega)]; exact q13, by rw [e 0 14 (by omega)]; exact q14, s1, s4, s9, s10, s11, fun i a b => by rw [e 1 i (by omega)]; exact f1 i a b, fun i a b => by rw [e 9 i (by omega)]; exact f2 i a b, fun i a b => by rw [e 11 i (by omega)]; exact f3 i a b⟩
theorem PbW_pl {p : Int} {sh : SH} {S S' : SS} (hW : PbW p sh S) (hs : Same PlD S S') (hA : AlgW p sh S') : PbW p sh S' ∧ Same D2 S S' ∧ ∀ i : Int, 0 ≤ i → i < 8 → pr S' i = pr S i := by
  obtain ⟨hK, -, h2', hP⟩ := hW
  have nn : ∀ i : Int, ¬ PlD (pl i) ∧ ¬ PlD (pl i + 1) := fun i => by unfold PlD pl; omega
  exact ⟨⟨PbK_P (fun a k q => hs.2.2 a k (by unfold PlD; omega)) hK, hA, Row_same hs (by unfold PlD; omega) (by unfold PlD; omega) h2', fun i a b => Row_same hs (nn i).1 (nn i).2 (hP i a b)⟩, Same_mono hs (fun a h => by unfold PlD at h; unfold D2 D1; omega), fun i a b => hs.2.1 _ (nn i).2⟩
theorem PlW_put2 {p m : Int} {sh : SH} {S : SS} {a N : Nat} {xs : Int → Int} (h : PlW p sh S m) (ha : 48 ≤ a) : PlW p sh (rput S a xs N) m := by
  obtain ⟨h30, p0, p1, p2, p3, p5, p6, h31, h32, hm, hmb, r31, r32, R33, R35⟩ := h
  exact ⟨h30, p0, p1, p2, p3, p5, p6, h31, h32, by rw [rput_F (by omega)]; exact hm, hmb, by rw [rput_A (by omega)]; exact r31, by rw [rput_A (by omega)]; exact r32, Row_ne R33 (by omega), Row_ne R35 (by omega)⟩
set_option maxRecDepth 100000 in
set_option maxHeartbeats 4000000 in
theorem c_X9_fill {g : GC} {p m t : Int} {sh : SH} {S : SS} {n : Nat} {Q : Option Value → GA → Nat → Prop} (hW : PbW p sh S) (hL : PlW p sh S m) (hr : -2147483648 ≤ t ∧ t ≤ 2147483647) (h0 : ¬ (0 ≤ t ∧ t < 8) → Q (some (.int (iI (-2)))) (hp g sh S) n)
    (h1 : (0 ≤ t ∧ t < 8) → ∀ S' : SS, PbW p sh S' → PlW p sh S' m → Same D2 S S' → (∀ i : Int, 0 ≤ i → i < 8 → pr S' i = if i = t then (clip 32 (itp p (S.2.1 31) (S.2.1 32) m.toNat).1) else pr S i) → Q (some (.int (iI (plen (clip 32 (itp p (S.2.1 31) (S.2.1 32) m.toNat).1) 32)))) (hp g sh S') n) : GCall g mX9_fill 6 0 0 [gr g 0, .int (iI t)] (hp g sh S) n Q := by
  have hW' := hW
  obtain ⟨hK, hA, hMd, hPo⟩ := hW'
  obtain ⟨k0, q0, q1, q2, q3, q4, q7, q8, q9, q12, q13, q14, s1, s4, s9, s10, s11, f1, f2, f3⟩ := hK
  have hP := hA.1.1
  have hRs := hA.1.2.1
  have hpb := hP.bd
  have h12 := hRs.1
  have h13 := hA.1.2.2.1
  have h2s := hMd.1.1
  refine GCall.of (by decide) (Nat.le_of_ble_eq_true rfl) (ls := [(0, _), (1, _)]) rfl ?_
  have h30 := hL.1
  obtain ⟨o, w, f, v, hE⟩ := hA.2
  have Kf : (0 ≤ t ∧ t < 8) → ∀ S1 : SS, Same PlD S S1 → PlW p sh S1 m → AlgW p sh S1 → rv S1 33 = (itp p (S.2.1 31) (S.2.1 32) m.toNat).1 → G g mX9_fill 6 0 0 19 [(0, gr g 0), (1, .int (iI t))] [gr g 33, .int (iI t), gr g 0] (hp g sh S1) n 0 0 Q := by
    intro ct S1 z1 z2 z3 z4
    obtain ⟨W1, s1', e1⟩ := PbW_pl hW z1 z3
    have r33 : Row p sh S1 33 64 := z2.2.2.2.2.2.2.2.2.2.2.2.2.2.1
    have hE := PbE_put W1 ct (xs := clip 32 (rv S1 33)) clip_sup (clip_red (by omega) r33.2.2.2.2)
    have hL2 : PlW p sh (rput S1 (pl t) (clip 32 (rv S1 33)) 32) m := PlW_put2 z2 (by unfold pl; omega)
    have hq := h1 ct _ hE.1 hL2 (Same_tr s1' (Same_mono hE.2.1 (fun a h => Or.inl h))) (fun i x y => by rw [hE.2.2 i x y, z4, e1 i x y])
    refine S_callV (pc := 19) (ci := 9) (d2 := 4) (mc2 := 0) (ms2 := 0) (As := [_, _]) dX9_fill_19 kX9_become lkX9_144 (by assumption) rfl rfl rfl (Nat.le_of_ble_eq_true rfl) ⟨by decide, by decide⟩ (by decide) ?_
    refine c_X9_become W1 ct r33 (Ne.symm (pl_ne (by decide))) ?_
    show G _ _ _ _ _ _ _ _ _ _ _ _ _
    refine G_iret (pc := 22) dX9_fill_22 rfl (by decide) ?_
    rw [z4] at hq ⊢
    exact hq
  refine G_iload_n (pc := 0) dX9_fill_0 rfl ?_
  refine G_callS (pc := 1) (d2 := 2) (mc2 := 0) (ms2 := 0) (As := [_]) dX9_fill_1 kX9_isPoly lkX9_107 rfl rfl (Nat.le_of_ble_eq_true rfl) ⟨by decide, by decide⟩ (by decide) ?_
  refine c_X9_isPoly (by omega) (fun w1 => ?_) (fun w1 => ?_)
  · show G _ _ _ _ _ _ _ _ _ _ _ _ _
    refine G_if_ne_t (pc := 4) 10 dX9_fill_4 rfl (by decide) (by decide) ?_
    refine S_aload_n (pc := 10) dX9_fill_10 rfl ?_
    refine G_iload_n (pc := 11) dX9_fill_11 rfl ?_
    refine S_aload_n (pc := 12) dX9_fill_12 rfl ?_
    refine S_getR (pc := 13) dX9_fill_13 fX9_72 (by assumption) rfl (by assumption) ?_
    refine S_callV (pc := 16) (ci := 2) (d2 := 5) (mc2 := 0) (ms2 := 0) (As := []) dX9_fill_16 kX2_interpolated lkX9_227 (by assumption) rfl rfl rfl (Nat.le_of_ble_eq_true rfl) ⟨by decide, by decide⟩ (by decide) ?_
    refine c_X2_interpolated hL hW.2.1.1 hE (fun S1 z1 z2 z3 z4 z5 z6 => ?_)
    · show G _ _ _ _ _ _ _ _ _ _ _ _ _
      exact Kf w1 S1 z1 z2 ⟨z3, o, w, f, v, z4⟩ z5
  · show G _ _ _ _ _ _ _ _ _ _ _ _ _
    refine G_if_ne_f (pc := 4) 10 dX9_fill_4 rfl (by decide) (by decide) ?_
    refine G_bipush (pc := 7) dX9_fill_7 rfl ?_
    refine G_iret (pc := 9) dX9_fill_9 rfl (by decide) ?_
    exact h0 w1
