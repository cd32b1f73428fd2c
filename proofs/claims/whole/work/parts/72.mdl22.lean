/-! the Model: right -/
def bwr (p hf k : Int) (xs vs : Int → Int) (r j : Int) : Int := if j < hf then (-(vs r) * (xs r ^ j.toNat % p)) % p else if j < 2 * hf + k then xs r ^ (j - hf).toNat % p else if j < 16 then 0 else vs r * (xs r ^ hf.toNat % p) % p
def bwm (p hf k : Int) (xs vs : Int → Int) : Int → Int := fun q => bwr p hf k xs vs (q / 17) (q - 17 * (q / 17))
theorem bwm_at {p hf k r i : Int} {xs vs : Int → Int} (hi : 0 ≤ i ∧ i < 17) : bwm p hf k xs vs (17 * r + i) = bwr p hf k xs vs r i := by
  unfold bwm
  rw [show (17 * r + i) / 17 = r by omega, show 17 * r + i - 17 * r = i by omega]
theorem bwm_red {p hf k : Int} {xs vs : Int → Int} (hp : 0 < p) : Red p (bwm p hf k xs vs) := fun q => by
  unfold bwm bwr
  split
  · exact em_bd hp
  · split
    · exact em_bd hp
    · split
      · omega
      · exact em_bd hp
theorem ev_more {xs : Int → Int} {N M : Nat} {x : Int} (h : Sup xs N) (hN : (N : Int) ≤ M) : ev xs x M = ev xs x N := by
  rw [← ev_len h, ← ev_len (Sup_more h hN), plen_more h (by omega)]
set_option maxRecDepth 100000 in
set_option maxHeartbeats 4000000 in
theorem l_X10_rightZ {g : GC} {p r hf t k : Int} {sh : SH} {S : SS} {n : Nat} {A : Int → Int} {Q : Option Value → GA → Nat → Prop} (hW : MdW p sh S) (hR : MrW p sh S) (hr : 0 ≤ r ∧ r ≤ 15)
    (K : G g mX10_right 5 0 0 83 [(4, .int (iI r)), (3, .int (iI hf)), (0, gr g 96), (1, .int (iI t)), (2, .int (iI k))] [] (hp g sh (putA S 107 (seg (17 * r) (17 * r + 17) pz A))) n 0 0 Q) : ∀ (f : Nat) (i : Int), i + f = 17 → 0 ≤ i → G g mX10_right 5 0 0 56 [(5, .int (iI i)), (4, .int (iI r)), (3, .int (iI hf)), (0, gr g 96), (1, .int (iI t)), (2, .int (iI k))] [] (hp g sh (putA S 107 (seg (17 * r) (17 * r + i) pz A))) n 0 0 Q := by
  have h96 := hW.2.1
  have hR' := hR
  obtain ⟨q32, q33, h107, h108, r107⟩ := hR'
  intro f
  induction f with
  | zero =>
    intro i hi h0
    refine G_iload (pc := 56) dX10_right_56 rfl ?_
    refine G_bipush (pc := 58) dX10_right_58 rfl ?_
    refine G_icmp_ge_t (pc := 60) 83 dX10_right_60 rfl (by omega) (by omega) ?_
    refine G_ls (ls' := [(4, _), (3, _), (0, _), (1, _), (2, _)]) (lsub_c rfl (lsub_c rfl (lsub_c rfl (lsub_c rfl (lsub_c rfl lsub_n))))) ?_
    rw [show i = 17 by omega]
    exact K
  | succ f ih =>
    intro i hi h0
    have hn := ih (i + 1) (by omega) (by omega)
    rw [show 17 * r + (i + 1) = 17 * r + i + 1 by omega, ← seg_S (by omega)] at hn
    refine G_iload (pc := 56) dX10_right_56 rfl ?_
    refine G_bipush (pc := 58) dX10_right_58 rfl ?_
    refine G_icmp_ge_f (pc := 60) 83 dX10_right_60 rfl (by omega) (by omega) ?_
    refine S_aload_n (pc := 63) dX10_right_63 rfl ?_
    refine S_getR (pc := 64) dX10_right_64 fX10_45 (by assumption) rfl (by assumption) ?_
    refine G_bipush (pc := 67) dX10_right_67 rfl ?_
    refine G_iload (pc := 69) dX10_right_69 rfl ?_
    refine G_imul (pc := 71) dX10_right_71 ?_
    refine G_iload (pc := 72) dX10_right_72 rfl ?_
    refine G_iadd (pc := 74) dX10_right_74 ?_
    refine G_iconst (pc := 75) dX10_right_75 ?_
    refine S_iast (pc := 76) dX10_right_76 (by assumption) (by omega) ?_
    refine G_iinc (pc := 77) (ls' := [(5, _), (4, _), (3, _), (0, _), (1, _), (2, _)]) dX10_right_77 rfl (by decide) rfl ?_
    refine G_goto (pc := 80) 56 dX10_right_80 rfl ?_
    rw [setA_putA]
    exact hn
set_option maxRecDepth 100000 in
set_option maxHeartbeats 4000000 in
theorem l_X10_rightE {g : GC} {p m r hf t k : Int} {sh : SH} {S : SS} {n : Nat} {X A : Int → Int} {Q : Option Value → GA → Nat → Prop} (hW : MdW p sh S) (hV : MpW p sh S m) (hR : MrW p sh S) (hr : 0 ≤ r ∧ r ≤ 15) (hh : 0 ≤ hf ∧ hf ≤ 8) (hX : X = bwm p hf k (S.2.1 105) (S.2.1 106))
    (K : G g mX10_right 5 0 0 137 [(4, .int (iI r)), (3, .int (iI hf)), (0, gr g 96), (1, .int (iI t)), (2, .int (iI k))] [] (hp g sh (putA S 107 (seg (17 * r) (17 * r + hf) X A))) n 0 0 Q) : ∀ (f : Nat) (i : Int), i + f = hf → 0 ≤ i → G g mX10_right 5 0 0 86 [(5, .int (iI i)), (4, .int (iI r)), (3, .int (iI hf)), (0, gr g 96), (1, .int (iI t)), (2, .int (iI k))] [] (hp g sh (putA S 107 (seg (17 * r) (17 * r + i) X A))) n 0 0 Q := by
  have hW' := hW
  obtain ⟨hP, h96, hp1, p2, h97, hred⟩ := hW'
  have hV' := hV
  obtain ⟨q30, q31, h105, h106, hm, hmb, r105, r106⟩ := hV'
  have hR' := hR
  obtain ⟨q32, q33, h107, h108, r107⟩ := hR'
  have hpb := hP.bd
  intro f
  induction f with
  | zero =>
    intro i hi h0
    refine G_iload (pc := 86) dX10_right_86 rfl ?_
    refine G_iload_n (pc := 88) dX10_right_88 rfl ?_
    refine G_icmp_ge_t (pc := 89) 137 dX10_right_89 rfl (by omega) (by omega) ?_
    refine G_ls (ls' := [(4, _), (3, _), (0, _), (1, _), (2, _)]) (lsub_c rfl (lsub_c rfl (lsub_c rfl (lsub_c rfl (lsub_c rfl lsub_n))))) ?_
    rw [show i = hf by omega]
    exact K
  | succ f ih =>
    intro i hi h0
    have hn := ih (i + 1) (by omega) (by omega)
    have hv : (-(S.2.1 106 r) * (S.2.1 105 r ^ i.toNat % p)) % p = X (17 * r + i) := by rw [hX, bwm_at (by omega)]; unfold bwr; rw [if_pos (by omega)]
    rw [show 17 * r + (i + 1) = 17 * r + i + 1 by omega, ← seg_S (by omega), ← hv] at hn
    have e5 : (putA S 107 (seg (17 * r) (17 * r + i) X A)).2.1 105 r = S.2.1 105 r := by rw [putA_ne (by decide)]
    have e6 : (putA S 107 (seg (17 * r) (17 * r + i) X A)).2.1 106 r = S.2.1 106 r := by rw [putA_ne (by decide)]
    have hx := r105 r
    have hy := r106 r
    have hpw := em_bd (z := S.2.1 105 r ^ i.toNat) (p := p) (by omega)
    have hmm := mul_bd hy hpw hpb.2
    have hng : -(S.2.1 106 r) * (S.2.1 105 r ^ i.toNat % p) = -(S.2.1 106 r * (S.2.1 105 r ^ i.toNat % p)) := Int.neg_mul _ _
    refine G_iload (pc := 86) dX10_right_86 rfl ?_
    refine G_iload_n (pc := 88) dX10_right_88 rfl ?_
    refine G_icmp_ge_f (pc := 89) 137 dX10_right_89 rfl (by omega) (by omega) ?_
    refine S_aload_n (pc := 92) dX10_right_92 rfl ?_
    refine S_getR (pc := 93) dX10_right_93 fX10_45 (by assumption) rfl (by assumption) ?_
    refine G_bipush (pc := 96) dX10_right_96 rfl ?_
    refine G_iload (pc := 98) dX10_right_98 rfl ?_
    refine G_imul (pc := 100) dX10_right_100 ?_
    refine G_iload (pc := 101) dX10_right_101 rfl ?_
    refine G_iadd (pc := 103) dX10_right_103 ?_
    refine S_aload_n (pc := 104) dX10_right_104 rfl ?_
    refine S_aload_n (pc := 105) dX10_right_105 rfl ?_
    refine S_getR (pc := 106) dX10_right_106 fX10_42 (by assumption) rfl (by assumption) ?_
    refine G_iload (pc := 109) dX10_right_109 rfl ?_
    refine S_iald (pc := 111) dX10_right_111 (by assumption) (by omega) ?_
    rw [e6]
    refine G_ineg (pc := 112) dX10_right_112 ?_
    refine S_aload_n (pc := 113) dX10_right_113 rfl ?_
    refine S_aload_n (pc := 114) dX10_right_114 rfl ?_
    refine S_getR (pc := 115) dX10_right_115 fX10_39 (by assumption) rfl (by assumption) ?_
    refine G_iload (pc := 118) dX10_right_118 rfl ?_
    refine S_iald (pc := 120) dX10_right_120 (by assumption) (by omega) ?_
    rw [e5]
    refine G_iload (pc := 121) dX10_right_121 rfl ?_
    refine S_callV (pc := 123) (ci := 10) (d2 := 1) (mc2 := 0) (ms2 := 0) (As := [_, _]) dX10_right_123 kX10_raised lkX10_82 (by assumption) rfl rfl rfl (Nat.le_of_ble_eq_true rfl) ⟨by decide, by decide⟩ (by decide) ?_
    refine c_X10_raised (MdW_putA hW (by decide)) hx (by omega) ?_
    show G _ _ _ _ _ _ _ _ _ _ _ _ _
    refine G_imul (pc := 126) dX10_right_126 ?_
    refine S_callV (pc := 127) (ci := 10) (d2 := 1) (mc2 := 0) (ms2 := 0) (As := [_]) dX10_right_127 kX10_rest lkX10_102 (by assumption) rfl rfl rfl (Nat.le_of_ble_eq_true rfl) ⟨by decide, by decide⟩ (by decide) ?_
    refine c_X10_rest (MdW_putA hW (by decide)) (by omega) ?_
    show G _ _ _ _ _ _ _ _ _ _ _ _ _
    refine S_iast (pc := 130) dX10_right_130 (by assumption) (by omega) ?_
    refine G_iinc (pc := 131) (ls' := [(5, _), (4, _), (3, _), (0, _), (1, _), (2, _)]) dX10_right_131 rfl (by decide) rfl ?_
    refine G_goto (pc := 134) 86 dX10_right_134 rfl ?_
    rw [setA_putA]
    exact hn
set_option maxRecDepth 100000 in
set_option maxHeartbeats 4000000 in
theorem l_X10_rightN {g : GC} {p m r hf t k : Int} {sh : SH} {S : SS} {n : Nat} {X A : Int → Int} {Q : Option Value → GA → Nat → Prop} (hW : MdW p sh S) (hV : MpW p sh S m) (hR : MrW p sh S) (hr : 0 ≤ r ∧ r ≤ 15) (hh : 0 ≤ hf ∧ 2 * hf + k ≤ 16) (hk : 1 ≤ k) (hX : X = bwm p hf k (S.2.1 105) (S.2.1 106))
    (K : G g mX10_right 5 0 0 182 [(4, .int (iI r)), (3, .int (iI hf)), (0, gr g 96), (1, .int (iI t)), (2, .int (iI k))] [] (hp g sh (putA S 107 (seg (17 * r) (17 * r + hf + (hf + k)) X A))) n 0 0 Q) : ∀ (f : Nat) (i : Int), i + f = hf + k → 0 ≤ i → G g mX10_right 5 0 0 140 [(5, .int (iI i)), (4, .int (iI r)), (3, .int (iI hf)), (0, gr g 96), (1, .int (iI t)), (2, .int (iI k))] [] (hp g sh (putA S 107 (seg (17 * r) (17 * r + hf + i) X A))) n 0 0 Q := by
  have hW' := hW
  obtain ⟨hP, h96, hp1, p2, h97, hred⟩ := hW'
  have hV' := hV
  obtain ⟨q30, q31, h105, h106, hm, hmb, r105, r106⟩ := hV'
  have hR' := hR
  obtain ⟨q32, q33, h107, h108, r107⟩ := hR'
  have hpb := hP.bd
  intro f
  induction f with
  | zero =>
    intro i hi h0
    refine G_iload (pc := 140) dX10_right_140 rfl ?_
    refine G_iload_n (pc := 142) dX10_right_142 rfl ?_
    refine G_iload_n (pc := 143) dX10_right_143 rfl ?_
    refine G_iadd (pc := 144) dX10_right_144 ?_
    refine G_icmp_ge_t (pc := 145) 182 dX10_right_145 rfl (by omega) (by omega) ?_
    refine G_ls (ls' := [(4, _), (3, _), (0, _), (1, _), (2, _)]) (lsub_c rfl (lsub_c rfl (lsub_c rfl (lsub_c rfl (lsub_c rfl lsub_n))))) ?_
    rw [show i = hf + k by omega]
    exact K
  | succ f ih =>
    intro i hi h0
    have hn := ih (i + 1) (by omega) (by omega)
    have hv : S.2.1 105 r ^ i.toNat % p = X (17 * r + hf + i) := by
      rw [hX, show 17 * r + hf + i = 17 * r + (hf + i) by omega, bwm_at (by omega)]
      unfold bwr
      rw [if_neg (by omega), if_pos (by omega), show hf + i - hf = i by omega]
    rw [show 17 * r + hf + (i + 1) = 17 * r + hf + i + 1 by omega, ← seg_S (by omega), ← hv] at hn
    have e5 : (putA S 107 (seg (17 * r) (17 * r + hf + i) X A)).2.1 105 r = S.2.1 105 r := by rw [putA_ne (by decide)]
    have hx := r105 r
    refine G_iload (pc := 140) dX10_right_140 rfl ?_
    refine G_iload_n (pc := 142) dX10_right_142 rfl ?_
    refine G_iload_n (pc := 143) dX10_right_143 rfl ?_
    refine G_iadd (pc := 144) dX10_right_144 ?_
    refine G_icmp_ge_f (pc := 145) 182 dX10_right_145 rfl (by omega) (by omega) ?_
    refine S_aload_n (pc := 148) dX10_right_148 rfl ?_
    refine S_getR (pc := 149) dX10_right_149 fX10_45 (by assumption) rfl (by assumption) ?_
    refine G_bipush (pc := 152) dX10_right_152 rfl ?_
    refine G_iload (pc := 154) dX10_right_154 rfl ?_
    refine G_imul (pc := 156) dX10_right_156 ?_
    refine G_iload_n (pc := 157) dX10_right_157 rfl ?_
    refine G_iadd (pc := 158) dX10_right_158 ?_
    refine G_iload (pc := 159) dX10_right_159 rfl ?_
    refine G_iadd (pc := 161) dX10_right_161 ?_
    refine S_aload_n (pc := 162) dX10_right_162 rfl ?_
    refine S_aload_n (pc := 163) dX10_right_163 rfl ?_
    refine S_getR (pc := 164) dX10_right_164 fX10_39 (by assumption) rfl (by assumption) ?_
    refine G_iload (pc := 167) dX10_right_167 rfl ?_
    refine S_iald (pc := 169) dX10_right_169 (by assumption) (by omega) ?_
    rw [e5]
    refine G_iload (pc := 170) dX10_right_170 rfl ?_
    refine S_callV (pc := 172) (ci := 10) (d2 := 1) (mc2 := 0) (ms2 := 0) (As := [_, _]) dX10_right_172 kX10_raised lkX10_82 (by assumption) rfl rfl rfl (Nat.le_of_ble_eq_true rfl) ⟨by decide, by decide⟩ (by decide) ?_
    refine c_X10_raised (MdW_putA hW (by decide)) hx (by omega) ?_
    show G _ _ _ _ _ _ _ _ _ _ _ _ _
    refine S_iast (pc := 175) dX10_right_175 (by assumption) (by omega) ?_
    refine G_iinc (pc := 176) (ls' := [(5, _), (4, _), (3, _), (0, _), (1, _), (2, _)]) dX10_right_176 rfl (by decide) rfl ?_
    refine G_goto (pc := 179) 140 dX10_right_179 rfl ?_
    rw [setA_putA]
    exact hn
set_option maxRecDepth 100000 in
set_option maxHeartbeats 4000000 in
theorem l_X10_rightR {g : GC} {p m hf t k : Int} {sh : SH} {S : SS} {n : Nat} {X A : Int → Int} {Q : Option Value → GA → Nat → Prop} (hW : MdW p sh S) (hV : MpW p sh S m) (hR : MrW p sh S) (hh : 0 ≤ hf ∧ 2 * hf + k ≤ 16) (hk : 1 ≤ k) (hX : X = bwm p hf k (S.2.1 105) (S.2.1 106))
    (K : G g mX10_right 5 0 0 226 [(3, .int (iI hf)), (0, gr g 96), (1, .int (iI t)), (2, .int (iI k))] [] (hp g sh (putA S 107 (seg 0 (17 * m) X A))) n 0 0 Q) : ∀ (f : Nat) (r : Int), r + f = m → 0 ≤ r → G g mX10_right 5 0 0 44 [(4, .int (iI r)), (3, .int (iI hf)), (0, gr g 96), (1, .int (iI t)), (2, .int (iI k))] [] (hp g sh (putA S 107 (seg 0 (17 * r) X A))) n 0 0 Q := by
  have hW' := hW
  obtain ⟨hP, h96, hp1, p2, h97, hred⟩ := hW'
  have hV' := hV
  obtain ⟨q30, q31, h105, h106, hm, hmb, r105, r106⟩ := hV'
  have hR' := hR
  obtain ⟨q32, q33, h107, h108, r107⟩ := hR'
  have hpb := hP.bd
  intro f
  induction f with
  | zero =>
    intro r hr h0
    have e : (putA S 107 (seg 0 (17 * r) X A)).1 96 29 = m := hm
    refine G_iload (pc := 44) dX10_right_44 rfl ?_
    refine S_aload_n (pc := 46) dX10_right_46 rfl ?_
    refine S_getI (pc := 47) dX10_right_47 fX10_284 (by assumption) rfl ?_
    rw [e]
    refine G_icmp_ge_t (pc := 50) 226 dX10_right_50 rfl (by omega) (by omega) ?_
    refine G_ls (ls' := [(3, _), (0, _), (1, _), (2, _)]) (lsub_c rfl (lsub_c rfl (lsub_c rfl (lsub_c rfl lsub_n)))) ?_
    rw [show r = m by omega]
    exact K
  | succ f ih =>
    intro r hr h0
    have e : (putA S 107 (seg 0 (17 * r) X A)).1 96 29 = m := hm
    have hn := ih (r + 1) (by omega) (by omega)
    have hv : S.2.1 106 r * (S.2.1 105 r ^ hf.toNat % p) % p = X (17 * r + 16) := by
      rw [hX, bwm_at (by omega)]
      unfold bwr
      rw [if_neg (by omega), if_neg (by omega), if_neg (by omega)]
    have eX : iup (seg (17 * r) (17 * r + hf + (hf + k)) X (seg (17 * r) (17 * r + 17) pz (seg 0 (17 * r) X A))) (17 * r + 16) (X (17 * r + 16)) = seg 0 (17 * (r + 1)) X A := by
      funext j
      by_cases h1 : j = 17 * r + 16
      · rw [h1, iup_at, seg_in (by omega)]
      · rw [iup_ne h1]
        by_cases h2 : 17 * r ≤ j ∧ j < 17 * r + hf + (hf + k)
        · rw [seg_in h2, seg_in (by omega)]
        · rw [seg_out h2]
          by_cases h3 : 17 * r ≤ j ∧ j < 17 * r + 17
          · rw [seg_in h3, seg_in (by omega), hX, show j = 17 * r + (j - 17 * r) by omega, bwm_at (by omega)]
            unfold bwr
            rw [if_neg (by omega), if_neg (by omega), if_pos (by omega)]
            rfl
          · rw [seg_out h3]
            by_cases h4 : 0 ≤ j ∧ j < 17 * r
            · rw [seg_in h4, seg_in (by omega)]
            · rw [seg_out h4, seg_out (by omega)]
    rw [← eX, ← hv] at hn
    have hx := r105 r
    have hy := r106 r
    have hpw := em_bd (z := S.2.1 105 r ^ hf.toNat) (p := p) (by omega)
    have hmm := mul_bd hy hpw hpb.2
    have K182 : G g mX10_right 5 0 0 182 [(4, .int (iI r)), (3, .int (iI hf)), (0, gr g 96), (1, .int (iI t)), (2, .int (iI k))] [] (hp g sh (putA S 107 (seg (17 * r) (17 * r + hf + (hf + k)) X (seg (17 * r) (17 * r + 17) pz (seg 0 (17 * r) X A))))) n 0 0 Q := by
      have e5 : (putA S 107 (seg (17 * r) (17 * r + hf + (hf + k)) X (seg (17 * r) (17 * r + 17) pz (seg 0 (17 * r) X A)))).2.1 105 r = S.2.1 105 r := by rw [putA_ne (by decide)]
      have e6 : (putA S 107 (seg (17 * r) (17 * r + hf + (hf + k)) X (seg (17 * r) (17 * r + 17) pz (seg 0 (17 * r) X A)))).2.1 106 r = S.2.1 106 r := by rw [putA_ne (by decide)]
      have e1 : (putA S 107 (seg (17 * r) (17 * r + hf + (hf + k)) X (seg (17 * r) (17 * r + 17) pz (seg 0 (17 * r) X A)))).1 96 1 = p := hp1
      refine S_aload_n (pc := 182) dX10_right_182 rfl ?_
      refine S_getR (pc := 183) dX10_right_183 fX10_45 (by assumption) rfl (by assumption) ?_
      refine G_bipush (pc := 186) dX10_right_186 rfl ?_
      refine G_iload (pc := 188) dX10_right_188 rfl ?_
      refine G_imul (pc := 190) dX10_right_190 ?_
      refine G_bipush (pc := 191) dX10_right_191 rfl ?_
      refine G_iadd (pc := 193) dX10_right_193 ?_
      refine S_aload_n (pc := 194) dX10_right_194 rfl ?_
      refine S_getR (pc := 195) dX10_right_195 fX10_42 (by assumption) rfl (by assumption) ?_
      refine G_iload (pc := 198) dX10_right_198 rfl ?_
      refine S_iald (pc := 200) dX10_right_200 (by assumption) (by omega) ?_
      rw [e6]
      refine S_aload_n (pc := 201) dX10_right_201 rfl ?_
      refine S_aload_n (pc := 202) dX10_right_202 rfl ?_
      refine S_getR (pc := 203) dX10_right_203 fX10_39 (by assumption) rfl (by assumption) ?_
      refine G_iload (pc := 206) dX10_right_206 rfl ?_
      refine S_iald (pc := 208) dX10_right_208 (by assumption) (by omega) ?_
      rw [e5]
      refine G_iload_n (pc := 209) dX10_right_209 rfl ?_
      refine S_callV (pc := 210) (ci := 10) (d2 := 1) (mc2 := 0) (ms2 := 0) (As := [_, _]) dX10_right_210 kX10_raised lkX10_82 (by assumption) rfl rfl rfl (Nat.le_of_ble_eq_true rfl) ⟨by decide, by decide⟩ (by decide) ?_
      refine c_X10_raised (MdW_putA hW (by decide)) hx (by omega) ?_
      show G _ _ _ _ _ _ _ _ _ _ _ _ _
      refine G_imul (pc := 213) dX10_right_213 ?_
      refine S_aload_n (pc := 214) dX10_right_214 rfl ?_
      refine S_getI (pc := 215) dX10_right_215 fX10_64 (by assumption) rfl ?_
      rw [e1]
      refine G_iremP (pc := 218) dX10_right_218 (by omega) ?_
      refine S_iast (pc := 219) dX10_right_219 (by assumption) (by omega) ?_
      refine G_iinc (pc := 220) (ls' := [(4, _), (3, _), (0, _), (1, _), (2, _)]) dX10_right_220 rfl (by decide) rfl ?_
      refine G_goto (pc := 223) 44 dX10_right_223 rfl ?_
      rw [setA_putA]
      exact hn
    have hN := l_X10_rightN (t := t) hW hV hR (by omega) hh hk hX K182 (hf + k).toNat 0 (by omega) (Int.le_refl _)
    rw [Int.add_zero] at hN
    have K137 : G g mX10_right 5 0 0 137 [(4, .int (iI r)), (3, .int (iI hf)), (0, gr g 96), (1, .int (iI t)), (2, .int (iI k))] [] (hp g sh (putA S 107 (seg (17 * r) (17 * r + hf) X (seg (17 * r) (17 * r + 17) pz (seg 0 (17 * r) X A))))) n 0 0 Q := by
      refine G_iconst (pc := 137) dX10_right_137 ?_
      refine G_istore (pc := 138) (ls' := [(5, _), (4, _), (3, _), (0, _), (1, _), (2, _)]) dX10_right_138 (by decide) rfl ?_
      exact hN
    have hE := l_X10_rightE (t := t) hW hV hR (by omega) (by omega) hX K137 hf.toNat 0 (by omega) (Int.le_refl _)
    rw [Int.add_zero, seg_0] at hE
    have K83 : G g mX10_right 5 0 0 83 [(4, .int (iI r)), (3, .int (iI hf)), (0, gr g 96), (1, .int (iI t)), (2, .int (iI k))] [] (hp g sh (putA S 107 (seg (17 * r) (17 * r + 17) pz (seg 0 (17 * r) X A)))) n 0 0 Q := by
      refine G_iconst (pc := 83) dX10_right_83 ?_
      refine G_istore (pc := 84) (ls' := [(5, _), (4, _), (3, _), (0, _), (1, _), (2, _)]) dX10_right_84 (by decide) rfl ?_
      exact hE
    have hZ := l_X10_rightZ (t := t) hW hR (by omega) K83 17 0 (by omega) (Int.le_refl _)
    rw [Int.add_zero, seg_0] at hZ
    refine G_iload (pc := 44) dX10_right_44 rfl ?_
    refine S_aload_n (pc := 46) dX10_right_46 rfl ?_
    refine S_getI (pc := 47) dX10_right_47 fX10_284 (by assumption) rfl ?_
    rw [e]
    refine G_icmp_ge_f (pc := 50) 226 dX10_right_50 rfl (by omega) (by omega) ?_
    refine G_iconst (pc := 53) dX10_right_53 ?_
    refine G_istore (pc := 54) (ls' := [(5, _), (4, _), (3, _), (0, _), (1, _), (2, _)]) dX10_right_54 (by decide) rfl ?_
    exact hZ
/-- the factor and the product that are sought, out of the numbers found -/
def bwE (hf : Int) (x : Int → Int) : Int → Int := fun j => if 0 ≤ j ∧ j < hf then x j else if j = hf then 1 else 0
def bwN (hf k : Int) (x : Int → Int) : Int → Int := fun j => if 0 ≤ j ∧ j < hf + k then x (hf + j) else 0
theorem bwE_red {p hf : Int} {x : Int → Int} (hp : 1 < p) (h : Red p x) : Red p (bwE hf x) := fun j => by
  unfold bwE
  split
  · exact h j
  · split <;> omega
theorem bwN_red {p hf k : Int} {x : Int → Int} (hp : 0 < p) (h : Red p x) : Red p (bwN hf k x) := fun j => by
  unfold bwN
  split
  · exact h _
  · omega
theorem bwE_len {hf : Int} {x : Int → Int} (h : 0 ≤ hf ∧ hf ≤ 60) : plen (bwE hf x) 80 = hf + 1 := by
  refine plen_eq (by omega) (by omega) (fun j h1 h2 => ?_) (Or.inr ?_)
  · unfold bwE
    rw [if_neg (by omega), if_neg (by omega)]
  · unfold bwE
    rw [if_neg (by omega), if_pos (by omega)]
    decide
set_option maxRecDepth 100000 in
set_option maxHeartbeats 4000000 in
theorem l_X10_right261 {g : GC} {p hf t k : Int} {sh : SH} {S : SS} {n : Nat} {x : Int → Int} {Q : Option Value → GA → Nat → Prop} (hW : MdW p sh S) (hx : mg S 8 = x) (hh : 0 ≤ hf ∧ hf ≤ 8)
    (K : G g mX10_right 5 0 0 295 [(3, .int (iI hf)), (0, gr g 96), (1, .int (iI t)), (2, .int (iI k))] [] (hp g sh (mset S 9 (mix x pz hf))) n 0 0 Q) : ∀ (f : Nat) (i : Int), i + f = hf → 0 ≤ i → G g mX10_right 5 0 0 261 [(4, .int (iI i)), (3, .int (iI hf)), (0, gr g 96), (1, .int (iI t)), (2, .int (iI k))] [] (hp g sh (mset S 9 (mix x pz i))) n 0 0 Q := by
  have hW' := hW
  obtain ⟨hP, h96, hp1, p2, h97, hred⟩ := hW'
  intro f
  induction f with
  | zero =>
    intro i hi h0
    refine G_iload (pc := 261) dX10_right_261 rfl ?_
    refine G_iload_n (pc := 263) dX10_right_263 rfl ?_
    refine G_icmp_ge_t (pc := 264) 295 dX10_right_264 rfl (by omega) (by omega) ?_
    refine G_ls (ls' := [(3, _), (0, _), (1, _), (2, _)]) (lsub_c rfl (lsub_c rfl (lsub_c rfl (lsub_c rfl lsub_n)))) ?_
    rw [show i = hf by omega]
    exact K
  | succ f ih =>
    intro i hi h0
    have hn := ih (i + 1) (by omega) (by omega)
    rw [← mix_S h0] at hn
    have e1 : (mset S 9 (mix x pz i)).2.1 97 (640 + i) = x i := by rw [mg_at (r := 8) (i := i) (by omega) (by omega), mg_ne (by decide), hx]
    refine G_iload (pc := 261) dX10_right_261 rfl ?_
    refine G_iload_n (pc := 263) dX10_right_263 rfl ?_
    refine G_icmp_ge_f (pc := 264) 295 dX10_right_264 rfl (by omega) (by omega) ?_
    refine S_aload_n (pc := 267) dX10_right_267 rfl ?_
    refine S_getR (pc := 268) dX10_right_268 fX10_13 (by assumption) rfl (by assumption) ?_
    refine G_sipush (pc := 271) dX10_right_271 rfl ?_
    refine G_iload (pc := 274) dX10_right_274 rfl ?_
    refine G_iadd (pc := 276) dX10_right_276 ?_
    refine S_aload_n (pc := 277) dX10_right_277 rfl ?_
    refine S_getR (pc := 278) dX10_right_278 fX10_13 (by assumption) rfl (by assumption) ?_
    refine G_sipush (pc := 281) dX10_right_281 rfl ?_
    refine G_iload (pc := 284) dX10_right_284 rfl ?_
    refine G_iadd (pc := 286) dX10_right_286 ?_
    refine S_iald (pc := 287) dX10_right_287 (by assumption) (by omega) ?_
    rw [e1]
    refine S_iast (pc := 288) dX10_right_288 (by assumption) (by omega) ?_
    refine G_iinc (pc := 289) (ls' := [(4, _), (3, _), (0, _), (1, _), (2, _)]) dX10_right_289 rfl (by decide) rfl ?_
    refine G_goto (pc := 292) 261 dX10_right_292 rfl ?_
    rw [show (720 : Int) + i = 80 * 9 + i by omega, mset_setA (by omega)]
    exact hn
set_option maxRecDepth 100000 in
set_option maxHeartbeats 4000000 in
theorem l_X10_right309 {g : GC} {p hf t k : Int} {sh : SH} {S : SS} {n : Nat} {x : Int → Int} {Q : Option Value → GA → Nat → Prop} (hW : MdW p sh S) (hx : mg S 8 = x) (hh : 0 ≤ hf ∧ 2 * hf + k ≤ 16) (hk : 1 ≤ k)
    (K : G g mX10_right 5 0 0 347 [(3, .int (iI hf)), (0, gr g 96), (1, .int (iI t)), (2, .int (iI k))] [] (hp g sh (mset S 10 (mix (fun j => x (hf + j)) pz (hf + k)))) n 0 0 Q) : ∀ (f : Nat) (i : Int), i + f = hf + k → 0 ≤ i → G g mX10_right 5 0 0 309 [(4, .int (iI i)), (3, .int (iI hf)), (0, gr g 96), (1, .int (iI t)), (2, .int (iI k))] [] (hp g sh (mset S 10 (mix (fun j => x (hf + j)) pz i))) n 0 0 Q := by
  have hW' := hW
  obtain ⟨hP, h96, hp1, p2, h97, hred⟩ := hW'
  intro f
  induction f with
  | zero =>
    intro i hi h0
    refine G_iload (pc := 309) dX10_right_309 rfl ?_
    refine G_iload_n (pc := 311) dX10_right_311 rfl ?_
    refine G_iload_n (pc := 312) dX10_right_312 rfl ?_
    refine G_iadd (pc := 313) dX10_right_313 ?_
    refine G_icmp_ge_t (pc := 314) 347 dX10_right_314 rfl (by omega) (by omega) ?_
    refine G_ls (ls' := [(3, _), (0, _), (1, _), (2, _)]) (lsub_c rfl (lsub_c rfl (lsub_c rfl (lsub_c rfl lsub_n)))) ?_
    rw [show i = hf + k by omega]
    exact K
  | succ f ih =>
    intro i hi h0
    have hn := ih (i + 1) (by omega) (by omega)
    rw [← mix_S (ys := fun j => x (hf + j)) h0] at hn
    have e1 : (mset S 10 (mix (fun j => x (hf + j)) pz i)).2.1 97 (640 + hf + i) = x (hf + i) := by rw [mg_at (r := 8) (i := hf + i) (by omega) (by omega), mg_ne (by decide), hx]
    refine G_iload (pc := 309) dX10_right_309 rfl ?_
    refine G_iload_n (pc := 311) dX10_right_311 rfl ?_
    refine G_iload_n (pc := 312) dX10_right_312 rfl ?_
    refine G_iadd (pc := 313) dX10_right_313 ?_
    refine G_icmp_ge_f (pc := 314) 347 dX10_right_314 rfl (by omega) (by omega) ?_
    refine S_aload_n (pc := 317) dX10_right_317 rfl ?_
    refine S_getR (pc := 318) dX10_right_318 fX10_13 (by assumption) rfl (by assumption) ?_
    refine G_sipush (pc := 321) dX10_right_321 rfl ?_
    refine G_iload (pc := 324) dX10_right_324 rfl ?_
    refine G_iadd (pc := 326) dX10_right_326 ?_
    refine S_aload_n (pc := 327) dX10_right_327 rfl ?_
    refine S_getR (pc := 328) dX10_right_328 fX10_13 (by assumption) rfl (by assumption) ?_
    refine G_sipush (pc := 331) dX10_right_331 rfl ?_
    refine G_iload_n (pc := 334) dX10_right_334 rfl ?_
    refine G_iadd (pc := 335) dX10_right_335 ?_
    refine G_iload (pc := 336) dX10_right_336 rfl ?_
    refine G_iadd (pc := 338) dX10_right_338 ?_
    refine S_iald (pc := 339) dX10_right_339 (by assumption) (by omega) ?_
    rw [e1]
    refine S_iast (pc := 340) dX10_right_340 (by assumption) (by omega) ?_
    refine G_iinc (pc := 341) (ls' := [(4, _), (3, _), (0, _), (1, _), (2, _)]) dX10_right_341 rfl (by decide) rfl ?_
    refine G_goto (pc := 344) 309 dX10_right_344 rfl ?_
    rw [show (800 : Int) + i = 80 * 10 + i by omega, mset_setA (by omega)]
    exact hn
set_option maxRecDepth 100000 in
set_option maxHeartbeats 4000000 in
theorem l_X10_right384 {g : GC} {p m hf t k : Int} {sh : SH} {S : SS} {n : Nat} {D : Int → Int} {Q : Option Value → GA → Nat → Prop} (hW : MdW p sh S) (hV : MpW p sh S m) (hD : mg S 11 = D) (hDs : Sup D 64)
    (K : G g mX10_right 5 0 0 432 [(4, .int (iI (wrg p D (S.2.1 105) (S.2.1 106) m.toNat))), (3, .int (iI hf)), (0, gr g 96), (1, .int (iI t)), (2, .int (iI k))] [] (hp g sh S) n 0 0 Q) : ∀ (f i : Nat), i + f = m → G g mX10_right 5 0 0 384 [(5, .int (iI i)), (4, .int (iI (wrg p D (S.2.1 105) (S.2.1 106) i))), (3, .int (iI hf)), (0, gr g 96), (1, .int (iI t)), (2, .int (iI k))] [] (hp g sh S) n 0 0 Q := by
  have hW' := hW
  obtain ⟨hP, h96, hp1, p2, h97, hred⟩ := hW'
  have hV' := hV
  obtain ⟨q30, q31, h105, h106, hm, hmb, r105, r106⟩ := hV'
  have hpb := hP.bd
  intro f
  induction f with
  | zero =>
    intro i hi
    refine G_iload (pc := 384) dX10_right_384 rfl ?_
    refine S_aload_n (pc := 386) dX10_right_386 rfl ?_
    refine S_getI (pc := 387) dX10_right_387 fX10_284 (by assumption) rfl ?_
    rw [hm]
    refine G_icmp_ge_t (pc := 390) 432 dX10_right_390 rfl (by omega) (by omega) ?_
    refine G_ls (ls' := [(4, _), (3, _), (0, _), (1, _), (2, _)]) (lsub_c rfl (lsub_c rfl (lsub_c rfl (lsub_c rfl (lsub_c rfl lsub_n))))) ?_
    rw [show i = m.toNat by omega]
    exact K
  | succ f ih =>
    intro i hi
    have hn := ih (i + 1) (by omega)
    unfold wrg at hn
    rw [show ((i + 1 : Nat) : Int) = i + 1 by omega] at hn
    have hx := r105 i
    have hy := r106 i
    have hev := em_bd (z := ev D (S.2.1 105 i) 64) (p := p) (by omega)
    refine G_iload (pc := 384) dX10_right_384 rfl ?_
    refine S_aload_n (pc := 386) dX10_right_386 rfl ?_
    refine S_getI (pc := 387) dX10_right_387 fX10_284 (by assumption) rfl ?_
    rw [hm]
    refine G_icmp_ge_f (pc := 390) 432 dX10_right_390 rfl (by omega) (by omega) ?_
    refine G_iload (pc := 393) dX10_right_393 rfl ?_
    refine S_aload_n (pc := 395) dX10_right_395 rfl ?_
    refine G_bipush (pc := 396) dX10_right_396 rfl ?_
    refine S_aload_n (pc := 398) dX10_right_398 rfl ?_
    refine S_getR (pc := 399) dX10_right_399 fX10_39 (by assumption) rfl (by assumption) ?_
    refine G_iload (pc := 402) dX10_right_402 rfl ?_
    refine S_iald (pc := 404) dX10_right_404 (by assumption) (by omega) ?_
    refine S_callV (pc := 405) (ci := 10) (d2 := 2) (mc2 := 0) (ms2 := 0) (As := [_, _]) dX10_right_405 kX10_worth lkX10_281 (by assumption) rfl rfl rfl (Nat.le_of_ble_eq_true rfl) ⟨by decide, by decide⟩ (by decide) ?_
    refine c_X10_worth hW (by omega) hx ?_
    rw [hD, ev_more hDs (by decide)]
    show G _ _ _ _ _ _ _ _ _ _ _ _ _
    refine S_aload_n (pc := 408) dX10_right_408 rfl ?_
    refine S_getR (pc := 409) dX10_right_409 fX10_42 (by assumption) rfl (by assumption) ?_
    refine G_iload (pc := 412) dX10_right_412 rfl ?_
    refine S_iald (pc := 414) dX10_right_414 (by assumption) (by omega) ?_
    refine G_icmp_ne (pc := 415) 422 dX10_right_415 rfl (by omega) (fun c415 => ?_) (fun c415 => ?_)
    · skip
      refine G_iconst (pc := 422) dX10_right_422 ?_
      refine G_iadd (pc := 423) dX10_right_423 ?_
      refine G_istore (pc := 424) (ls' := [(4, _), (5, _), (3, _), (0, _), (1, _), (2, _)]) dX10_right_424 (by decide) rfl ?_
      refine G_iinc (pc := 426) (ls' := [(5, _), (4, _), (3, _), (0, _), (1, _), (2, _)]) dX10_right_426 rfl (by decide) rfl ?_
      refine G_goto (pc := 429) 384 dX10_right_429 rfl ?_
      first | (rw [if_pos (Decidable.of_not_not c415)] at hn; exact hn) | (rw [if_neg c415] at hn; exact hn)
    · skip
      refine G_iconst (pc := 418) dX10_right_418 ?_
      refine G_goto (pc := 419) 423 dX10_right_419 rfl ?_
      refine G_iadd (pc := 423) dX10_right_423 ?_
      refine G_istore (pc := 424) (ls' := [(4, _), (5, _), (3, _), (0, _), (1, _), (2, _)]) dX10_right_424 (by decide) rfl ?_
      refine G_iinc (pc := 426) (ls' := [(5, _), (4, _), (3, _), (0, _), (1, _), (2, _)]) dX10_right_426 rfl (by decide) rfl ?_
      refine G_goto (pc := 429) 384 dX10_right_429 rfl ?_
      first | (rw [if_pos (Decidable.of_not_not c415)] at hn; exact hn) | (rw [if_neg c415] at hn; exact hn)
set_option maxRecDepth 100000 in
set_option maxHeartbeats 4000000 in
theorem c_X10_right {g : GC} {p m t k hf : Int} {sh : SH} {S : SS} {n : Nat} {X : Int → Int} {Q : Option Value → GA → Nat → Prop} (hW : MdW p sh S) (hV : MpW p sh S m) (hR : MrW p sh S) (hr : (-2147483648 ≤ t ∧ t ≤ 2147483647) ∧ (-2147483648 ≤ k ∧ k ≤ 2147483647)) (hhf : hf = (m - k) / 2) (hX : X = bwm p hf k (S.2.1 105) (S.2.1 106))
    (h0 : ¬ ((0 ≤ t ∧ t < 8) ∧ (1 ≤ k ∧ k ≤ m)) → Q (some (.int (iI (-2)))) (hp g sh S) n)
    (h1 : (0 ≤ t ∧ t < 8) → (1 ≤ k ∧ k ≤ m) → (∃ i : Int, 0 ≤ i ∧ i < m ∧ ∃ j : Int, 0 ≤ j ∧ j < i ∧ S.2.1 105 i = S.2.1 105 j) → Q (some (.int (iI (-3)))) (hp g sh S) n)
    (h2 : (0 ≤ t ∧ t < 8) → (1 ≤ k ∧ k ≤ m) → (∀ i : Int, 0 ≤ i → i < m → ∀ j : Int, 0 ≤ j → j < i → S.2.1 105 i ≠ S.2.1 105 j) → (∀ x : Int → Int, ¬ Sol p m (2 * hf + k) X x) → ∀ S' : SS, MScr S S' → MdW p sh S' → MrW p sh S' → Q (some (.int (iI (-1)))) (hp g sh S') n)
    (h3 : (0 ≤ t ∧ t < 8) → (1 ≤ k ∧ k ≤ m) → (∀ i : Int, 0 ≤ i → i < m → ∀ j : Int, 0 ≤ j → j < i → S.2.1 105 i ≠ S.2.1 105 j) → ∀ x : Int → Int, Red p x → (∀ j : Int, (j < 0 ∨ 2 * hf + k ≤ j) → x j = 0) → Sol p m (2 * hf + k) X x → ∀ qq r : Int → Int, DivS p (bwN hf k x) (bwE hf x) qq r (plen (bwN hf k x) 80) (hf + 1) → ∀ S' : SS, MScr S S' → MdW p sh S' → MrW p sh S' →
      (0 < plen r 80 ∨ k < plen qq 80 ∨ hf < wrg p qq (S.2.1 105) (S.2.1 106) m.toNat → Q (some (.int (iI (-1)))) (hp g sh S') n) ∧ (¬ (0 < plen r 80 ∨ k < plen qq 80 ∨ hf < wrg p qq (S.2.1 105) (S.2.1 106) m.toNat) → Q (some (.int (iI (wrg p qq (S.2.1 105) (S.2.1 106) m.toNat)))) (hp g sh (mset S' t qq)) n)) :
    GCall g mX10_right 5 0 0 [gr g 96, .int (iI t), .int (iI k)] (hp g sh S) n Q := by
  have hW' := hW
  obtain ⟨hP, h96, hp1, p2, h97, hred⟩ := hW'
  have hV' := hV
  obtain ⟨q30, q31, h105, h106, hm, hmb, r105, r106⟩ := hV'
  have hpb := hP.bd
  obtain ⟨hr1, hr2⟩ := hr
  have hXr : Red p X := by rw [hX]; exact bwm_red (by omega)
  have hFr : Red p (seg 0 (17 * m) X (S.2.1 107)) := seg_red hXr hR.2.2.2.2
  have hcg : (0 ≤ hf ∧ 1 ≤ k ∧ 2 * hf + k ≤ 16) → ∀ x : Int → Int, Sol p m (2 * hf + k) ((putA S 107 (seg 0 (17 * m) X (S.2.1 107))).2.1 107) x ↔ Sol p m (2 * hf + k) X x := fun hb x => by
    rw [putA_at]
    exact Sol_congr (by omega) (fun r g1 g2 j g3 g4 => seg_in (by omega))
  refine GCall.of (by decide) (Nat.le_of_ble_eq_true rfl) (ls := [(0, _), (1, _), (2, _)]) rfl ?_
  have hend : (0 ≤ t ∧ t < 8) → (1 ≤ k ∧ k ≤ m) → (∀ i : Int, 0 ≤ i → i < m → ∀ j : Int, 0 ≤ j → j < i → S.2.1 105 i ≠ S.2.1 105 j) → ∀ (S' : SS) (x : Int → Int), MScr S S' → MdW p sh S' → MrW p sh S' → mg S' 8 = x → Red p x → (∀ j : Int, (j < 0 ∨ 2 * hf + k ≤ j) → x j = 0) → Sol p m (2 * hf + k) X x → ∀ qq r : Int → Int, DivS p (bwN hf k x) (bwE hf x) qq r (plen (bwN hf k x) 80) (hf + 1) → G g mX10_right 5 0 0 357 [(3, .int (iI hf)), (0, gr g 96), (1, .int (iI t)), (2, .int (iI k))] [] (hp g sh (mset (mset (mset (mset S' 9 (bwE hf x)) 10 (bwN hf k x)) 11 qq) 10 r)) n 0 0 Q := by
    intro ht hk hun S' x hs W2 R2 hx xr xz xs qq r hD
    have hbN := plen_bd (bwN hf k x) 80
    have hqs : Sup qq 80 := fun j hj => hD.2.2.2.2 j (by omega)
    have hrs : Sup r 80 := fun j hj => hD.2.2.2.1 j (by omega)
    have W3 : MdW p sh (mset (mset (mset (mset S' 9 (bwE hf x)) 10 (bwN hf k x)) 11 qq) 10 r) := MdW_set (MdW_set (MdW_set (MdW_set W2 (bwE_red (by omega) xr)) (bwN_red (by omega) xr)) hD.1) hD.2.1
    have S3 : MScr S (mset (mset (mset (mset S' 9 (bwE hf x)) 10 (bwN hf k x)) 11 qq) 10 r) := MScr_set (MScr_set (MScr_set (MScr_set hs (by decide)) (by decide)) (by decide)) (by decide)
    have R3 : MrW p sh (mset (mset (mset (mset S' 9 (bwE hf x)) 10 (bwN hf k x)) 11 qq) 10 r) := MrW_set (MrW_set (MrW_set (MrW_set R2)))
    have V3 : MpW p sh (mset (mset (mset (mset S' 9 (bwE hf x)) 10 (bwN hf k x)) 11 qq) 10 r) m := MpW_scr S3 hV
    have v10 : mg (mset (mset (mset (mset S' 9 (bwE hf x)) 10 (bwN hf k x)) 11 qq) 10 r) 10 = r := mg_set hrs
    have v11 : mg (mset (mset (mset (mset S' 9 (bwE hf x)) 10 (bwN hf k x)) 11 qq) 10 r) 11 = qq := by rw [mg_ne (by decide), mg_set hqs]
    have e5 : (mset (mset (mset (mset S' 9 (bwE hf x)) 10 (bwN hf k x)) 11 qq) 10 r).2.1 105 = S.2.1 105 := S3.2.2.1 105 (by decide)
    have e6 : (mset (mset (mset (mset S' 9 (bwE hf x)) 10 (bwN hf k x)) 11 qq) 10 r).2.1 106 = S.2.1 106 := S3.2.2.1 106 (by decide)
    obtain ⟨hA, hB⟩ := h3 ht hk hun x xr xz xs qq r hD _ S3 W3 R3
    have hbr := plen_bd r 80
    have hbq := plen_bd qq 80
    have hbw := wrg_bd (p := p) (r := qq) (xs := S.2.1 105) (vs := S.2.1 106) m.toNat
    have h96' := W3.2.1
    have K432 : ¬ (0 < plen r 80) → ¬ (k < plen qq 80) → G g mX10_right 5 0 0 432 [(4, .int (iI (wrg p qq (S.2.1 105) (S.2.1 106) m.toNat))), (3, .int (iI hf)), (0, gr g 96), (1, .int (iI t)), (2, .int (iI k))] [] (hp g sh (mset (mset (mset (mset S' 9 (bwE hf x)) 10 (bwN hf k x)) 11 qq) 10 r)) n 0 0 Q := by
      intro z1 z2
      refine G_iload (pc := 432) dX10_right_432 rfl ?_
      refine G_iload_n (pc := 434) dX10_right_434 rfl ?_
      refine G_icmp_le (pc := 435) 440 dX10_right_435 rfl (by omega) (fun c435 => ?_) (fun c435 => ?_)
      · skip
        refine S_aload_n (pc := 440) dX10_right_440 rfl ?_
        refine G_iload_n (pc := 441) dX10_right_441 rfl ?_
        refine G_bipush (pc := 442) dX10_right_442 rfl ?_
        refine S_callV (pc := 444) (ci := 10) (d2 := 2) (mc2 := 0) (ms2 := 0) (As := [_, _]) dX10_right_444 kX10_comes lkX10_109 (by assumption) rfl rfl rfl (Nat.le_of_ble_eq_true rfl) ⟨by decide, by decide⟩ (by decide) ?_
        refine c_X10_comes W3 (by omega) (by omega) ?_
        rw [v11]
        show G _ _ _ _ _ _ _ _ _ _ _ _ _
        refine G_istore (pc := 447) (ls' := [(5, _), (4, _), (3, _), (0, _), (1, _), (2, _)]) dX10_right_447 (by decide) rfl ?_
        refine G_iload (pc := 449) dX10_right_449 rfl ?_
        refine G_iret (pc := 451) dX10_right_451 rfl (by decide) ?_
        exact hB (by omega)
      · skip
        refine G_iconst (pc := 438) dX10_right_438 ?_
        refine G_iret (pc := 439) dX10_right_439 rfl (by decide) ?_
        exact hA (Or.inr (Or.inr (by omega)))
    have K378 : ¬ (0 < plen r 80) → ¬ (k < plen qq 80) → G g mX10_right 5 0 0 378 [(3, .int (iI hf)), (0, gr g 96), (1, .int (iI t)), (2, .int (iI k))] [] (hp g sh (mset (mset (mset (mset S' 9 (bwE hf x)) 10 (bwN hf k x)) 11 qq) 10 r)) n 0 0 Q := by
      intro z1 z2
      have hl := l_X10_right384 (hf := hf) (t := t) (k := k) W3 V3 v11 (fun j hj => hj.elim (fun h => hqs j (Or.inl h)) (fun h => Sup_len hqs (by omega))) (by rw [e5, e6]; exact K432 z1 z2) m.toNat 0 (by omega)
      refine G_iconst (pc := 378) dX10_right_378 ?_
      refine G_istore (pc := 379) (ls' := [(4, _), (3, _), (0, _), (1, _), (2, _)]) dX10_right_379 (by decide) rfl ?_
      refine G_iconst (pc := 381) dX10_right_381 ?_
      refine G_istore (pc := 382) (ls' := [(5, _), (4, _), (3, _), (0, _), (1, _), (2, _)]) dX10_right_382 (by decide) rfl ?_
      exact hl
    refine S_aload_n (pc := 357) dX10_right_357 rfl ?_
    refine G_bipush (pc := 358) dX10_right_358 rfl ?_
    refine S_callV (pc := 360) (ci := 10) (d2 := 1) (mc2 := 0) (ms2 := 0) (As := [_]) dX10_right_360 kX10_length lkX10_94 (by assumption) rfl rfl rfl (Nat.le_of_ble_eq_true rfl) ⟨by decide, by decide⟩ (by decide) ?_
    refine c_X10_length W3 (by omega) ?_
    rw [v10]
    show G _ _ _ _ _ _ _ _ _ _ _ _ _
    refine G_if_gt (pc := 363) 376 dX10_right_363 rfl (by omega) (fun c363 => ?_) (fun c363 => ?_)
    · skip
      refine G_iconst (pc := 376) dX10_right_376 ?_
      refine G_iret (pc := 377) dX10_right_377 rfl (by decide) ?_
      exact hA (by omega)
    · skip
      refine S_aload_n (pc := 366) dX10_right_366 rfl ?_
      refine G_bipush (pc := 367) dX10_right_367 rfl ?_
      refine S_callV (pc := 369) (ci := 10) (d2 := 1) (mc2 := 0) (ms2 := 0) (As := [_]) dX10_right_369 kX10_length lkX10_94 (by assumption) rfl rfl rfl (Nat.le_of_ble_eq_true rfl) ⟨by decide, by decide⟩ (by decide) ?_
      refine c_X10_length W3 (by omega) ?_
      rw [v11]
      show G _ _ _ _ _ _ _ _ _ _ _ _ _
      refine G_iload_n (pc := 372) dX10_right_372 rfl ?_
      refine G_icmp_le (pc := 373) 378 dX10_right_373 rfl (by omega) (fun c373 => ?_) (fun c373 => ?_)
      · skip
        exact K378 (by omega) (by omega)
      · skip
        refine G_iconst (pc := 376) dX10_right_376 ?_
        refine G_iret (pc := 377) dX10_right_377 rfl (by decide) ?_
        exact hA (by omega)
  have hgo : (0 ≤ t ∧ t < 8) → (1 ≤ k ∧ k ≤ m) → (∀ i : Int, 0 ≤ i → i < m → ∀ j : Int, 0 ≤ j → j < i → S.2.1 105 i ≠ S.2.1 105 j) → ∀ (S' : SS) (x : Int → Int), MScr S S' → MdW p sh S' → MrW p sh S' → mg S' 8 = x → Red p x → (∀ j : Int, (j < 0 ∨ 2 * hf + k ≤ j) → x j = 0) → Sol p m (2 * hf + k) X x → G g mX10_right 5 0 0 246 [(3, .int (iI hf)), (0, gr g 96), (1, .int (iI t)), (2, .int (iI k))] [] (hp g sh S') n 0 0 Q := by
    intro ht hk hun S' x hs W2 R2 hx xr xz xs
    have h96' := W2.2.1
    have W3 : MdW p sh (mset S' 9 pz) := MdW_set W2 (Red_pz (by omega))
    have xE : iup (mix x pz hf) hf 1 = bwE hf x := by
      funext j
      unfold bwE
      by_cases h : j = hf
      · rw [h, iup_at, if_neg (by omega), if_pos rfl]
      · rw [iup_ne h]
        unfold mix
        by_cases h2 : 0 ≤ j ∧ j < hf
        · rw [if_pos h2, if_pos h2]
        · rw [if_neg h2, if_neg h2, if_neg h]; rfl
    have xN : mix (fun j => x (hf + j)) pz (hf + k) = bwN hf k x := rfl
    have Er := bwE_red (p := p) (hf := hf) (by omega) xr
    have Nr := bwN_red (p := p) (hf := hf) (k := k) (by omega) xr
    have Es : Sup (bwE hf x) 80 := fun j hj => by
      unfold bwE
      rw [if_neg (by omega), if_neg (by omega)]
    have Ns : Sup (bwN hf k x) 80 := fun j hj => by
      unfold bwN
      rw [if_neg (by omega)]
    have W4 : MdW p sh (mset (mset S' 9 (bwE hf x)) 10 (bwN hf k x)) := MdW_set (MdW_set W2 Er) Nr
    have v9 : mg (mset (mset S' 9 (bwE hf x)) 10 (bwN hf k x)) 9 = bwE hf x := by rw [mg_ne (by decide), mg_set Es]
    have v10 : mg (mset (mset S' 9 (bwE hf x)) 10 (bwN hf k x)) 10 = bwN hf k x := mg_set Ns
    have lE := bwE_len (hf := hf) (x := x) (by omega)
    have K347 : G g mX10_right 5 0 0 347 [(3, .int (iI hf)), (0, gr g 96), (1, .int (iI t)), (2, .int (iI k))] [] (hp g sh (mset (mset S' 9 (bwE hf x)) 10 (mix (fun j => x (hf + j)) pz (hf + k)))) n 0 0 Q := by
      rw [xN]
      refine S_aload_n (pc := 347) dX10_right_347 rfl ?_
      refine G_bipush (pc := 348) dX10_right_348 rfl ?_
      refine G_bipush (pc := 350) dX10_right_350 rfl ?_
      refine G_bipush (pc := 352) dX10_right_352 rfl ?_
      refine S_callV (pc := 354) (ci := 10) (d2 := 4) (mc2 := 0) (ms2 := 0) (As := [_, _, _]) dX10_right_354 kX10_divideRows lkX10_269 (by assumption) rfl rfl rfl (Nat.le_of_ble_eq_true rfl) ⟨by decide, by decide⟩ (by decide) ?_
      refine c_X10_divideRows W4 (by omega) (by omega) (by omega) (by decide) (by decide) (by decide) (by rw [v9, lE]; omega) (fun qq r hD => ?_)
      rw [v9, v10, lE] at hD
      exact hend ht hk hun S' x hs W2 R2 hx xr xz xs qq r hD
    have h9 := l_X10_right309 (hf := hf) (t := t) (k := k) (x := x) (S := mset S' 9 (bwE hf x)) (MdW_set W2 Er) (by rw [mg_ne (by decide)]; exact hx) (by omega) hk.1 K347 (hf + k).toNat 0 (by omega) (Int.le_refl _)
    rw [mix_0] at h9
    have K295 : G g mX10_right 5 0 0 295 [(3, .int (iI hf)), (0, gr g 96), (1, .int (iI t)), (2, .int (iI k))] [] (hp g sh (mset (mset S' 10 pz) 9 (mix x pz hf))) n 0 0 Q := by
      have hW5 := (MdW_set (r := 9) (ys := mix x pz hf) (MdW_set (r := 10) (ys := pz) W2 (Red_pz (by omega))) (mix_red xr (Red_pz (by omega))))
      obtain ⟨-, -, -, p2', -, -⟩ := hW5
      refine S_aload_n (pc := 295) dX10_right_295 rfl ?_
      refine S_getR (pc := 296) dX10_right_296 fX10_13 (by assumption) rfl (by assumption) ?_
      refine G_sipush (pc := 299) dX10_right_299 rfl ?_
      refine G_iload_n (pc := 302) dX10_right_302 rfl ?_
      refine G_iadd (pc := 303) dX10_right_303 ?_
      refine G_iconst (pc := 304) dX10_right_304 ?_
      refine S_iast (pc := 305) dX10_right_305 (by assumption) (by omega) ?_
      refine G_iconst (pc := 306) dX10_right_306 ?_
      refine G_istore (pc := 307) (ls' := [(4, _), (3, _), (0, _), (1, _), (2, _)]) dX10_right_307 (by decide) rfl ?_
      rw [show (720 : Int) + hf = 80 * 9 + hf by omega, mset_setA (by omega), xE, mset_comm (by decide)]
      exact h9
    have h8 := l_X10_right261 (hf := hf) (t := t) (k := k) (x := x) (S := mset S' 10 pz) (MdW_set W2 (Red_pz (by omega))) (by rw [mg_ne (by decide)]; exact hx) (by omega) K295 hf.toNat 0 (by omega) (Int.le_refl _)
    rw [mix_0] at h8
    refine S_aload_n (pc := 246) dX10_right_246 rfl ?_
    refine G_bipush (pc := 247) dX10_right_247 rfl ?_
    refine S_callV (pc := 249) (ci := 10) (d2 := 1) (mc2 := 0) (ms2 := 0) (As := [_]) dX10_right_249 kX10_empty lkX10_105 (by assumption) rfl rfl rfl (Nat.le_of_ble_eq_true rfl) ⟨by decide, by decide⟩ (by decide) ?_
    refine c_X10_empty W2 (by omega) ?_
    show G _ _ _ _ _ _ _ _ _ _ _ _ _
    refine S_aload_n (pc := 252) dX10_right_252 rfl ?_
    refine G_bipush (pc := 253) dX10_right_253 rfl ?_
    refine S_callV (pc := 255) (ci := 10) (d2 := 1) (mc2 := 0) (ms2 := 0) (As := [_]) dX10_right_255 kX10_empty lkX10_105 (by assumption) rfl rfl rfl (Nat.le_of_ble_eq_true rfl) ⟨by decide, by decide⟩ (by decide) ?_
    refine c_X10_empty W3 (by omega) ?_
    show G _ _ _ _ _ _ _ _ _ _ _ _ _
    refine G_iconst (pc := 258) dX10_right_258 ?_
    refine G_istore (pc := 259) (ls' := [(4, _), (3, _), (0, _), (1, _), (2, _)]) dX10_right_259 (by decide) rfl ?_
    rw [mset_comm (by decide)]
    exact h8
  have K226 : (0 ≤ t ∧ t < 8) → (1 ≤ k ∧ k ≤ m) → (∀ i : Int, 0 ≤ i → i < m → ∀ j : Int, 0 ≤ j → j < i → S.2.1 105 i ≠ S.2.1 105 j) → G g mX10_right 5 0 0 226 [(3, .int (iI hf)), (0, gr g 96), (1, .int (iI t)), (2, .int (iI k))] [] (hp g sh (putA S 107 (seg 0 (17 * m) X (S.2.1 107)))) n 0 0 Q := by
    intro ht hk hun
    have e : (putA S 107 (seg 0 (17 * m) X (S.2.1 107))).1 96 29 = m := hm
    refine S_aload_n (pc := 226) dX10_right_226 rfl ?_
    refine S_aload_n (pc := 227) dX10_right_227 rfl ?_
    refine S_getI (pc := 228) dX10_right_228 fX10_284 (by assumption) rfl ?_
    rw [e]
    refine G_iconst (pc := 231) dX10_right_231 ?_
    refine G_iload_n (pc := 232) dX10_right_232 rfl ?_
    refine G_imul (pc := 233) dX10_right_233 ?_
    refine G_iload_n (pc := 234) dX10_right_234 rfl ?_
    refine G_iadd (pc := 235) dX10_right_235 ?_
    refine G_bipush (pc := 236) dX10_right_236 rfl ?_
    refine S_callV (pc := 238) (ci := 10) (d2 := 3) (mc2 := 0) (ms2 := 0) (As := [_, _, _]) dX10_right_238 kX10_solve lkX10_290 (by assumption) rfl rfl rfl (Nat.le_of_ble_eq_true rfl) ⟨by decide, by decide⟩ (by decide) ?_
    refine c_X10_solve (MdW_putA hW (by decide)) (MrW_107 hR hFr) hmb (by omega) (by omega) (fun S' x g1 g2 g3 g4 g5 g6 g7 => ?_) (fun S' g1 g2 g3 g4 => ?_)
    · show G _ _ _ _ _ _ _ _ _ _ _ _ _
      refine G_if_ne_t (pc := 241) 246 dX10_right_241 rfl (by decide) (by decide) ?_
      exact hgo ht hk hun S' x (MScr_tr (MScr_107 MScr_rf (by rw [hp1]; exact hFr)) g1) g2 g3 g4 g5 g6 ((hcg (by omega) x).mp g7)
    · show G _ _ _ _ _ _ _ _ _ _ _ _ _
      refine G_if_ne_f (pc := 241) 246 dX10_right_241 rfl (by decide) (by decide) ?_
      refine G_iconst (pc := 244) dX10_right_244 ?_
      refine G_iret (pc := 245) dX10_right_245 rfl (by decide) ?_
      exact h2 ht hk hun (fun x hx => g4 x ((hcg (by omega) x).mpr hx)) S' (MScr_tr (MScr_107 MScr_rf (by rw [hp1]; exact hFr)) g1) g2 g3
  refine G_iload_n (pc := 0) dX10_right_0 rfl ?_
  refine G_callS (pc := 1) (d2 := 2) (mc2 := 0) (ms2 := 0) (As := [_]) dX10_right_1 kX10_isPoly lkX10_98 rfl rfl (Nat.le_of_ble_eq_true rfl) ⟨by decide, by decide⟩ (by decide) ?_
  refine c_X10_isPoly (by omega) (fun w1 => ?_) (fun w1 => ?_)
  · show G _ _ _ _ _ _ _ _ _ _ _ _ _
    refine G_if_eq_f (pc := 4) 19 dX10_right_4 rfl (by decide) (by decide) ?_
    refine G_iload_n (pc := 7) dX10_right_7 rfl ?_
    refine G_iconst (pc := 8) dX10_right_8 ?_
    refine S_aload_n (pc := 9) dX10_right_9 rfl ?_
    refine S_getI (pc := 10) dX10_right_10 fX10_284 (by assumption) rfl ?_
    rw [hm]
    refine G_callS (pc := 13) (d2 := 1) (mc2 := 0) (ms2 := 0) (As := [_, _, _]) dX10_right_13 kX10_in lkX10_86 rfl rfl (Nat.le_of_ble_eq_true rfl) ⟨by decide, by decide⟩ (by decide) ?_
    refine c_X10_in (by omega) (fun w13 => ?_) (fun w13 => ?_)
    · show G _ _ _ _ _ _ _ _ _ _ _ _ _
      refine G_if_ne_t (pc := 16) 22 dX10_right_16 rfl (by decide) (by decide) ?_
      refine S_aload_n (pc := 22) dX10_right_22 rfl ?_
      refine S_callV (pc := 23) (ci := 10) (d2 := 1) (mc2 := 0) (ms2 := 0) (As := []) dX10_right_23 kX10_areUnlike lkX10_293 (by assumption) rfl rfl rfl (Nat.le_of_ble_eq_true rfl) ⟨by decide, by decide⟩ (by decide) ?_
      refine c_X10_areUnlike hW hV (fun hu => ?_) (fun hu => ?_)
      · show G _ _ _ _ _ _ _ _ _ _ _ _ _
        refine G_if_ne_f (pc := 26) 32 dX10_right_26 rfl (by decide) (by decide) ?_
        refine G_bipush (pc := 29) dX10_right_29 rfl ?_
        refine G_iret (pc := 31) dX10_right_31 rfl (by decide) ?_
        exact h1 (by omega) (by omega) hu
      · show G _ _ _ _ _ _ _ _ _ _ _ _ _
        refine G_if_ne_t (pc := 26) 32 dX10_right_26 rfl (by decide) (by decide) ?_
        refine S_aload_n (pc := 32) dX10_right_32 rfl ?_
        refine S_getI (pc := 33) dX10_right_33 fX10_284 (by assumption) rfl ?_
        rw [hm]
        refine G_iload_n (pc := 36) dX10_right_36 rfl ?_
        refine G_isub (pc := 37) dX10_right_37 ?_
        refine G_iconst (pc := 38) dX10_right_38 ?_
        refine G_idivP (pc := 39) dX10_right_39 (by omega) ?_
        rw [← hhf]
        refine G_istore_n (pc := 40) (ls' := [(3, _), (0, _), (1, _), (2, _)]) dX10_right_40 (by decide) rfl ?_
        refine G_iconst (pc := 41) dX10_right_41 ?_
        refine G_istore (pc := 42) (ls' := [(4, _), (3, _), (0, _), (1, _), (2, _)]) dX10_right_42 (by decide) rfl ?_
        have := l_X10_rightR (A := S.2.1 107) hW hV hR (by omega) (by omega) hX (K226 (by omega) (by omega) hu) m.toNat 0 (by omega) (Int.le_refl _)
        rw [Int.mul_zero, seg_0, putA_same] at this
        exact this
    · show G _ _ _ _ _ _ _ _ _ _ _ _ _
      refine G_if_ne_f (pc := 16) 22 dX10_right_16 rfl (by decide) (by decide) ?_
      refine G_bipush (pc := 19) dX10_right_19 rfl ?_
      refine G_iret (pc := 21) dX10_right_21 rfl (by decide) ?_
      exact h0 (by omega)
  · show G _ _ _ _ _ _ _ _ _ _ _ _ _
    refine G_if_eq_t (pc := 4) 19 dX10_right_4 rfl (by decide) (by decide) ?_
    refine G_bipush (pc := 19) dX10_right_19 rfl ?_
    refine G_iret (pc := 21) dX10_right_21 rfl (by decide) ?_
    exact h0 (by omega)
