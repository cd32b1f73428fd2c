/-! the Model: layOut, powerFor, same, costOf -/
def lyS (cut : Int) (X : Int → Int) (s : Int) : Int := if s ≤ cut then s * s else 2 * X ((s + 1) / 2) + X (s - (s + 1) / 2)
def lyT (kd cut : Int) (X Y : Int → Int) (s : Int) : Int := if kd = 4 then (if s ≤ 3 * cut then X s else 5 * Y ((s + 2) / 3)) else (if s ≤ cut ∨ s ≤ 2 then s * s else 5 * Y ((s + 2) / 3))
/-- the two tables behind s rounds -/
def lyO (kd cut : Int) (X0 Y0 : Int → Int) : Nat → (Int → Int) × (Int → Int)
  | 0 => (X0, Y0)
  | s + 1 => (iup (lyO kd cut X0 Y0 s).1 s (lyS cut (lyO kd cut X0 Y0 s).1 s), iup (lyO kd cut X0 Y0 s).2 s (lyT kd cut (iup (lyO kd cut X0 Y0 s).1 s (lyS cut (lyO kd cut X0 Y0 s).1 s)) (lyO kd cut X0 Y0 s).2 s))
def MlW (sh : SH) (S : SS) : Prop := S.2.2 96 7 = some 100 ∧ S.2.2 96 8 = some 101 ∧ sh 100 = some (.inr (2, 33)) ∧ sh 101 = some (.inr (2, 33))
theorem MvW_scr {w : Int} {sh : SH} {S S' : SS} (h : MScr S S') (hV : MvW sh S w) : MvW sh S' w := by
  obtain ⟨h96, q4, q5, h98, h99, hw, hwb, r98, r99⟩ := hV
  exact ⟨h96, by rw [h.2.1]; exact q4, by rw [h.2.1]; exact q5, h98, h99, by rw [h.1 96 3 (by decide)]; exact hw, hwb, by rw [h.2.2.1 98 (by decide)]; exact r98, by rw [h.2.2.1 99 (by decide)]; exact r99⟩
theorem MlW_scr {sh : SH} {S S' : SS} (h : MScr S S') (hV : MlW sh S) : MlW sh S' := by
  obtain ⟨q7, q8, h100, h101⟩ := hV
  exact ⟨by rw [h.2.1]; exact q7, by rw [h.2.1]; exact q8, h100, h101⟩
set_option maxRecDepth 100000 in
set_option maxHeartbeats 4000000 in
theorem l_X10_layOut {g : GC} {w wy kd cut : Int} {sh : SH} {S0 : SS} {n : Nat} {X0 Y0 : Int → Int} {Q : Option Value → GA → Nat → Prop} (hwy : 0 ≤ wy ∧ wy < w) (hkd : S0.2.1 98 wy = kd) (hcut : S0.2.1 99 wy = cut) (hk : 0 ≤ kd ∧ kd ≤ 5) (hc : 1 ≤ cut ∧ cut ≤ 16)
    (hq : ∀ S : SS, MScr S0 S → S.2.1 97 = S0.2.1 97 → S.1 = S0.1 → S.2.1 100 = (lyO kd cut X0 Y0 33).1 → S.2.1 101 = (lyO kd cut X0 Y0 33).2 → Q none (hp g sh S) n) :
    ∀ (k s : Nat) (S : SS), s + k = 33 → MvW sh S w → MlW sh S → MScr S0 S → S.2.1 97 = S0.2.1 97 → S.1 = S0.1 → S.2.1 100 = (lyO kd cut X0 Y0 s).1 → S.2.1 101 = (lyO kd cut X0 Y0 s).2 → G g mX10_layOut 1 0 0 9 [(3, .int (iI s)), (2, .int (iI cut)), (0, gr g 96), (1, .int (iI wy))] [] (hp g sh S) n 0 0 Q := by
  intro k
  induction k with
  | zero =>
    intro s S hs hV hL hR h97 hF h1 h2
    have h96 := hV.1
    refine G_iload_n (pc := 9) dX10_layOut_9 rfl ?_
    refine G_bipush (pc := 10) dX10_layOut_10 rfl ?_
    refine G_icmp_gt_t (pc := 12) 162 dX10_layOut_12 rfl (by omega) (by omega) ?_
    refine G_vret (pc := 162) dX10_layOut_162 rfl (by decide) ?_
    exact hq S hR h97 hF (by rw [h1, show s = 33 by omega]) (by rw [h2, show s = 33 by omega])
  | succ k ih =>
    intro s S hs hV hL hR h97 hF h1 h2
    have hV' := hV
    obtain ⟨h96, q4, q5, h98, h99, hw, hwb, r98, r99⟩ := hV'
    have hL' := hL
    obtain ⟨q7, q8, h100, h101⟩ := hL'
    have ek : S.2.1 98 wy = kd := by rw [hR.2.2.1 98 (by decide)]; exact hkd
    have hn : ∀ v : Int, v = lyT kd cut (iup (lyO kd cut X0 Y0 s).1 s (lyS cut (lyO kd cut X0 Y0 s).1 s)) (lyO kd cut X0 Y0 s).2 s → G g mX10_layOut 1 0 0 9 [(3, .int (iI (s + 1))), (2, .int (iI cut)), (0, gr g 96), (1, .int (iI wy))] [] (hp g sh (setA (setA S 100 s (lyS cut (lyO kd cut X0 Y0 s).1 s)) 101 s v)) n 0 0 Q := fun v hv => by
      have sc : MScr S (setA (setA S 100 s (lyS cut (lyO kd cut X0 Y0 s).1 s)) 101 s v) := MScr_A (MScr_A MScr_rf (by decide)) (by decide)
      refine ih (s + 1) _ (by omega) (MvW_scr sc hV) (MlW_scr sc hL) (MScr_tr hR sc) ?_ hF ?_ ?_
      · unfold setA
        rw [putA_ne (by decide), putA_ne (by decide)]; exact h97
      · unfold setA
        rw [putA_ne (by decide), putA_at, h1]; rfl
      · unfold setA
        rw [putA_at, putA_ne (by decide), h2, hv]; rfl
    have K62 : G g mX10_layOut 1 0 0 62 [(3, .int (iI s)), (2, .int (iI cut)), (0, gr g 96), (1, .int (iI wy))] [] (hp g sh (setA S 100 s (lyS cut (lyO kd cut X0 Y0 s).1 s))) n 0 0 Q := by
      have e98 : (setA S 100 s (lyS cut (lyO kd cut X0 Y0 s).1 s)).2.1 98 wy = kd := by rw [← ek]; exact congrFun (putA_ne (by decide)) _
      have e100 : (setA S 100 s (lyS cut (lyO kd cut X0 Y0 s).1 s)).2.1 100 = iup (lyO kd cut X0 Y0 s).1 s (lyS cut (lyO kd cut X0 Y0 s).1 s) := putA_at.trans (by rw [h1])
      have e101 : (setA S 100 s (lyS cut (lyO kd cut X0 Y0 s).1 s)).2.1 101 = (lyO kd cut X0 Y0 s).2 := (putA_ne (by decide)).trans h2
      unfold lyT at hn
      by_cases c4 : kd = 4
      · rw [if_pos c4] at hn
        by_cases c5 : (s : Int) ≤ 3 * cut
        · rw [if_pos c5] at hn
          have hn2 := hn _ rfl
          refine S_aload_n (pc := 62) dX10_layOut_62 rfl ?_
          refine S_getR (pc := 63) dX10_layOut_63 fX10_17 (by assumption) rfl (by assumption) ?_
          refine G_iload_n (pc := 66) dX10_layOut_66 rfl ?_
          refine S_iald (pc := 67) dX10_layOut_67 (by assumption) (by omega) ?_
          rw [e98]
          refine G_iconst (pc := 68) dX10_layOut_68 ?_
          refine G_icmp_ne_f (pc := 69) 87 dX10_layOut_69 rfl (by omega) (by omega) ?_
          refine G_iload_n (pc := 72) dX10_layOut_72 rfl ?_
          refine G_iconst (pc := 73) dX10_layOut_73 ?_
          refine G_iload_n (pc := 74) dX10_layOut_74 rfl ?_
          refine G_imul (pc := 75) dX10_layOut_75 ?_
          refine G_icmp_gt_f (pc := 76) 83 dX10_layOut_76 rfl (by omega) (by omega) ?_
          refine G_iconst (pc := 79) dX10_layOut_79 ?_
          refine G_goto (pc := 80) 102 dX10_layOut_80 rfl ?_
          refine G_istore (pc := 102) (ls' := [(5, _), (3, _), (2, _), (0, _), (1, _)]) dX10_layOut_102 (by decide) rfl ?_
          refine S_aload_n (pc := 104) dX10_layOut_104 rfl ?_
          refine S_getR (pc := 105) dX10_layOut_105 fX10_27 (by assumption) rfl (by assumption) ?_
          refine G_iload_n (pc := 108) dX10_layOut_108 rfl ?_
          refine G_iload (pc := 109) dX10_layOut_109 rfl ?_
          refine G_if_ne_t (pc := 111) 131 dX10_layOut_111 rfl (by omega) (by decide) ?_
          refine S_aload_n (pc := 131) dX10_layOut_131 rfl ?_
          refine S_getR (pc := 132) dX10_layOut_132 fX10_17 (by assumption) rfl (by assumption) ?_
          refine G_iload_n (pc := 135) dX10_layOut_135 rfl ?_
          refine S_iald (pc := 136) dX10_layOut_136 (by assumption) (by omega) ?_
          rw [e98]
          refine G_iconst (pc := 137) dX10_layOut_137 ?_
          refine G_icmp_ne_f (pc := 138) 150 dX10_layOut_138 rfl (by omega) (by omega) ?_
          refine S_aload_n (pc := 141) dX10_layOut_141 rfl ?_
          refine S_getR (pc := 142) dX10_layOut_142 fX10_23 (by assumption) rfl (by assumption) ?_
          refine G_iload_n (pc := 145) dX10_layOut_145 rfl ?_
          refine S_lald (pc := 146) dX10_layOut_146 (by assumption) (by omega) ?_
          rw [e100]
          refine G_goto (pc := 147) 155 dX10_layOut_147 rfl ?_
          refine S_last (pc := 155) dX10_layOut_155 (by assumption) (by omega) ?_
          refine G_iinc (pc := 156) (ls' := [(3, _), (5, _), (2, _), (0, _), (1, _)]) dX10_layOut_156 rfl (by decide) rfl ?_
          refine G_goto (pc := 159) 9 dX10_layOut_159 rfl ?_
          refine G_ls (ls' := [(3, _), (2, _), (0, _), (1, _)]) (lsub_c rfl (lsub_c rfl (lsub_c rfl (lsub_c rfl lsub_n)))) ?_
          exact hn2
        · rw [if_neg c5] at hn
          have hn2 := hn _ rfl
          refine S_aload_n (pc := 62) dX10_layOut_62 rfl ?_
          refine S_getR (pc := 63) dX10_layOut_63 fX10_17 (by assumption) rfl (by assumption) ?_
          refine G_iload_n (pc := 66) dX10_layOut_66 rfl ?_
          refine S_iald (pc := 67) dX10_layOut_67 (by assumption) (by omega) ?_
          rw [e98]
          refine G_iconst (pc := 68) dX10_layOut_68 ?_
          refine G_icmp_ne_f (pc := 69) 87 dX10_layOut_69 rfl (by omega) (by omega) ?_
          refine G_iload_n (pc := 72) dX10_layOut_72 rfl ?_
          refine G_iconst (pc := 73) dX10_layOut_73 ?_
          refine G_iload_n (pc := 74) dX10_layOut_74 rfl ?_
          refine G_imul (pc := 75) dX10_layOut_75 ?_
          refine G_icmp_gt_t (pc := 76) 83 dX10_layOut_76 rfl (by omega) (by omega) ?_
          refine G_iconst (pc := 83) dX10_layOut_83 ?_
          refine G_goto (pc := 84) 102 dX10_layOut_84 rfl ?_
          refine G_istore (pc := 102) (ls' := [(5, _), (3, _), (2, _), (0, _), (1, _)]) dX10_layOut_102 (by decide) rfl ?_
          refine S_aload_n (pc := 104) dX10_layOut_104 rfl ?_
          refine S_getR (pc := 105) dX10_layOut_105 fX10_27 (by assumption) rfl (by assumption) ?_
          refine G_iload_n (pc := 108) dX10_layOut_108 rfl ?_
          refine G_iload (pc := 109) dX10_layOut_109 rfl ?_
          refine G_if_ne_f (pc := 111) 131 dX10_layOut_111 rfl (by omega) (by decide) ?_
          refine G_ldc2 (pc := 114) (z := 5) dX10_layOut_114 coX10_117 rfl ?_
          refine S_aload_n (pc := 117) dX10_layOut_117 rfl ?_
          refine S_getR (pc := 118) dX10_layOut_118 fX10_27 (by assumption) rfl (by assumption) ?_
          refine G_iload_n (pc := 121) dX10_layOut_121 rfl ?_
          refine G_iconst (pc := 122) dX10_layOut_122 ?_
          refine G_iadd (pc := 123) dX10_layOut_123 ?_
          refine G_iconst (pc := 124) dX10_layOut_124 ?_
          refine G_idivP (pc := 125) dX10_layOut_125 (by omega) ?_
          refine S_lald (pc := 126) dX10_layOut_126 (by assumption) (by omega) ?_
          rw [e101]
          refine G_lmul (pc := 127) dX10_layOut_127 ?_
          refine G_goto (pc := 128) 155 dX10_layOut_128 rfl ?_
          refine S_last (pc := 155) dX10_layOut_155 (by assumption) (by omega) ?_
          refine G_iinc (pc := 156) (ls' := [(3, _), (5, _), (2, _), (0, _), (1, _)]) dX10_layOut_156 rfl (by decide) rfl ?_
          refine G_goto (pc := 159) 9 dX10_layOut_159 rfl ?_
          refine G_ls (ls' := [(3, _), (2, _), (0, _), (1, _)]) (lsub_c rfl (lsub_c rfl (lsub_c rfl (lsub_c rfl lsub_n)))) ?_
          exact hn2
      · rw [if_neg c4] at hn
        by_cases c5 : (s : Int) ≤ cut
        · rw [if_pos (Or.inl c5)] at hn
          have hn2 := hn _ rfl
          refine S_aload_n (pc := 62) dX10_layOut_62 rfl ?_
          refine S_getR (pc := 63) dX10_layOut_63 fX10_17 (by assumption) rfl (by assumption) ?_
          refine G_iload_n (pc := 66) dX10_layOut_66 rfl ?_
          refine S_iald (pc := 67) dX10_layOut_67 (by assumption) (by omega) ?_
          rw [e98]
          refine G_iconst (pc := 68) dX10_layOut_68 ?_
          refine G_icmp_ne_t (pc := 69) 87 dX10_layOut_69 rfl (by omega) (by omega) ?_
          refine G_iload_n (pc := 87) dX10_layOut_87 rfl ?_
          refine G_iload_n (pc := 88) dX10_layOut_88 rfl ?_
          refine G_icmp_le_t (pc := 89) 97 dX10_layOut_89 rfl (by omega) (by omega) ?_
          refine G_iconst (pc := 97) dX10_layOut_97 ?_
          refine G_goto (pc := 98) 102 dX10_layOut_98 rfl ?_
          refine G_istore (pc := 102) (ls' := [(5, _), (3, _), (2, _), (0, _), (1, _)]) dX10_layOut_102 (by decide) rfl ?_
          refine S_aload_n (pc := 104) dX10_layOut_104 rfl ?_
          refine S_getR (pc := 105) dX10_layOut_105 fX10_27 (by assumption) rfl (by assumption) ?_
          refine G_iload_n (pc := 108) dX10_layOut_108 rfl ?_
          refine G_iload (pc := 109) dX10_layOut_109 rfl ?_
          refine G_if_ne_t (pc := 111) 131 dX10_layOut_111 rfl (by omega) (by decide) ?_
          refine S_aload_n (pc := 131) dX10_layOut_131 rfl ?_
          refine S_getR (pc := 132) dX10_layOut_132 fX10_17 (by assumption) rfl (by assumption) ?_
          refine G_iload_n (pc := 135) dX10_layOut_135 rfl ?_
          refine S_iald (pc := 136) dX10_layOut_136 (by assumption) (by omega) ?_
          rw [e98]
          refine G_iconst (pc := 137) dX10_layOut_137 ?_
          refine G_icmp_ne_t (pc := 138) 150 dX10_layOut_138 rfl (by omega) (by omega) ?_
          refine G_iload_n (pc := 150) dX10_layOut_150 rfl ?_
          refine G_i2l (pc := 151) dX10_layOut_151 (by omega) ?_
          refine G_iload_n (pc := 152) dX10_layOut_152 rfl ?_
          refine G_i2l (pc := 153) dX10_layOut_153 (by omega) ?_
          refine G_lmul (pc := 154) dX10_layOut_154 ?_
          refine S_last (pc := 155) dX10_layOut_155 (by assumption) (by omega) ?_
          refine G_iinc (pc := 156) (ls' := [(3, _), (5, _), (2, _), (0, _), (1, _)]) dX10_layOut_156 rfl (by decide) rfl ?_
          refine G_goto (pc := 159) 9 dX10_layOut_159 rfl ?_
          refine G_ls (ls' := [(3, _), (2, _), (0, _), (1, _)]) (lsub_c rfl (lsub_c rfl (lsub_c rfl (lsub_c rfl lsub_n)))) ?_
          exact hn2
        · by_cases c6 : (s : Int) ≤ 2
          · rw [if_pos (Or.inr c6)] at hn
            have hn2 := hn _ rfl
            refine S_aload_n (pc := 62) dX10_layOut_62 rfl ?_
            refine S_getR (pc := 63) dX10_layOut_63 fX10_17 (by assumption) rfl (by assumption) ?_
            refine G_iload_n (pc := 66) dX10_layOut_66 rfl ?_
            refine S_iald (pc := 67) dX10_layOut_67 (by assumption) (by omega) ?_
            rw [e98]
            refine G_iconst (pc := 68) dX10_layOut_68 ?_
            refine G_icmp_ne_t (pc := 69) 87 dX10_layOut_69 rfl (by omega) (by omega) ?_
            refine G_iload_n (pc := 87) dX10_layOut_87 rfl ?_
            refine G_iload_n (pc := 88) dX10_layOut_88 rfl ?_
            refine G_icmp_le_f (pc := 89) 97 dX10_layOut_89 rfl (by omega) (by omega) ?_
            refine G_iload_n (pc := 92) dX10_layOut_92 rfl ?_
            refine G_iconst (pc := 93) dX10_layOut_93 ?_
            refine G_icmp_gt_f (pc := 94) 101 dX10_layOut_94 rfl (by omega) (by omega) ?_
            refine G_iconst (pc := 97) dX10_layOut_97 ?_
            refine G_goto (pc := 98) 102 dX10_layOut_98 rfl ?_
            refine G_istore (pc := 102) (ls' := [(5, _), (3, _), (2, _), (0, _), (1, _)]) dX10_layOut_102 (by decide) rfl ?_
            refine S_aload_n (pc := 104) dX10_layOut_104 rfl ?_
            refine S_getR (pc := 105) dX10_layOut_105 fX10_27 (by assumption) rfl (by assumption) ?_
            refine G_iload_n (pc := 108) dX10_layOut_108 rfl ?_
            refine G_iload (pc := 109) dX10_layOut_109 rfl ?_
            refine G_if_ne_t (pc := 111) 131 dX10_layOut_111 rfl (by omega) (by decide) ?_
            refine S_aload_n (pc := 131) dX10_layOut_131 rfl ?_
            refine S_getR (pc := 132) dX10_layOut_132 fX10_17 (by assumption) rfl (by assumption) ?_
            refine G_iload_n (pc := 135) dX10_layOut_135 rfl ?_
            refine S_iald (pc := 136) dX10_layOut_136 (by assumption) (by omega) ?_
            rw [e98]
            refine G_iconst (pc := 137) dX10_layOut_137 ?_
            refine G_icmp_ne_t (pc := 138) 150 dX10_layOut_138 rfl (by omega) (by omega) ?_
            refine G_iload_n (pc := 150) dX10_layOut_150 rfl ?_
            refine G_i2l (pc := 151) dX10_layOut_151 (by omega) ?_
            refine G_iload_n (pc := 152) dX10_layOut_152 rfl ?_
            refine G_i2l (pc := 153) dX10_layOut_153 (by omega) ?_
            refine G_lmul (pc := 154) dX10_layOut_154 ?_
            refine S_last (pc := 155) dX10_layOut_155 (by assumption) (by omega) ?_
            refine G_iinc (pc := 156) (ls' := [(3, _), (5, _), (2, _), (0, _), (1, _)]) dX10_layOut_156 rfl (by decide) rfl ?_
            refine G_goto (pc := 159) 9 dX10_layOut_159 rfl ?_
            refine G_ls (ls' := [(3, _), (2, _), (0, _), (1, _)]) (lsub_c rfl (lsub_c rfl (lsub_c rfl (lsub_c rfl lsub_n)))) ?_
            exact hn2
          · rw [if_neg (by omega)] at hn
            have hn2 := hn _ rfl
            refine S_aload_n (pc := 62) dX10_layOut_62 rfl ?_
            refine S_getR (pc := 63) dX10_layOut_63 fX10_17 (by assumption) rfl (by assumption) ?_
            refine G_iload_n (pc := 66) dX10_layOut_66 rfl ?_
            refine S_iald (pc := 67) dX10_layOut_67 (by assumption) (by omega) ?_
            rw [e98]
            refine G_iconst (pc := 68) dX10_layOut_68 ?_
            refine G_icmp_ne_t (pc := 69) 87 dX10_layOut_69 rfl (by omega) (by omega) ?_
            refine G_iload_n (pc := 87) dX10_layOut_87 rfl ?_
            refine G_iload_n (pc := 88) dX10_layOut_88 rfl ?_
            refine G_icmp_le_f (pc := 89) 97 dX10_layOut_89 rfl (by omega) (by omega) ?_
            refine G_iload_n (pc := 92) dX10_layOut_92 rfl ?_
            refine G_iconst (pc := 93) dX10_layOut_93 ?_
            refine G_icmp_gt_t (pc := 94) 101 dX10_layOut_94 rfl (by omega) (by omega) ?_
            refine G_iconst (pc := 101) dX10_layOut_101 ?_
            refine G_istore (pc := 102) (ls' := [(5, _), (3, _), (2, _), (0, _), (1, _)]) dX10_layOut_102 (by decide) rfl ?_
            refine S_aload_n (pc := 104) dX10_layOut_104 rfl ?_
            refine S_getR (pc := 105) dX10_layOut_105 fX10_27 (by assumption) rfl (by assumption) ?_
            refine G_iload_n (pc := 108) dX10_layOut_108 rfl ?_
            refine G_iload (pc := 109) dX10_layOut_109 rfl ?_
            refine G_if_ne_f (pc := 111) 131 dX10_layOut_111 rfl (by omega) (by decide) ?_
            refine G_ldc2 (pc := 114) (z := 5) dX10_layOut_114 coX10_117 rfl ?_
            refine S_aload_n (pc := 117) dX10_layOut_117 rfl ?_
            refine S_getR (pc := 118) dX10_layOut_118 fX10_27 (by assumption) rfl (by assumption) ?_
            refine G_iload_n (pc := 121) dX10_layOut_121 rfl ?_
            refine G_iconst (pc := 122) dX10_layOut_122 ?_
            refine G_iadd (pc := 123) dX10_layOut_123 ?_
            refine G_iconst (pc := 124) dX10_layOut_124 ?_
            refine G_idivP (pc := 125) dX10_layOut_125 (by omega) ?_
            refine S_lald (pc := 126) dX10_layOut_126 (by assumption) (by omega) ?_
            rw [e101]
            refine G_lmul (pc := 127) dX10_layOut_127 ?_
            refine G_goto (pc := 128) 155 dX10_layOut_128 rfl ?_
            refine S_last (pc := 155) dX10_layOut_155 (by assumption) (by omega) ?_
            refine G_iinc (pc := 156) (ls' := [(3, _), (5, _), (2, _), (0, _), (1, _)]) dX10_layOut_156 rfl (by decide) rfl ?_
            refine G_goto (pc := 159) 9 dX10_layOut_159 rfl ?_
            refine G_ls (ls' := [(3, _), (2, _), (0, _), (1, _)]) (lsub_c rfl (lsub_c rfl (lsub_c rfl (lsub_c rfl lsub_n)))) ?_
            exact hn2
    unfold lyS at K62
    by_cases c1 : (s : Int) ≤ cut
    · rw [if_pos c1] at K62
      refine G_iload_n (pc := 9) dX10_layOut_9 rfl ?_
      refine G_bipush (pc := 10) dX10_layOut_10 rfl ?_
      refine G_icmp_gt_f (pc := 12) 162 dX10_layOut_12 rfl (by omega) (by omega) ?_
      refine G_iload_n (pc := 15) dX10_layOut_15 rfl ?_
      refine G_iconst (pc := 16) dX10_layOut_16 ?_
      refine G_iadd (pc := 17) dX10_layOut_17 ?_
      refine G_iconst (pc := 18) dX10_layOut_18 ?_
      refine G_idivP (pc := 19) dX10_layOut_19 (by omega) ?_
      refine G_istore (pc := 20) (ls' := [(4, _), (3, _), (2, _), (0, _), (1, _)]) dX10_layOut_20 (by decide) rfl ?_
      refine S_aload_n (pc := 22) dX10_layOut_22 rfl ?_
      refine S_getR (pc := 23) dX10_layOut_23 fX10_23 (by assumption) rfl (by assumption) ?_
      refine G_iload_n (pc := 26) dX10_layOut_26 rfl ?_
      refine G_iload_n (pc := 27) dX10_layOut_27 rfl ?_
      refine G_iload_n (pc := 28) dX10_layOut_28 rfl ?_
      refine G_icmp_gt_f (pc := 29) 40 dX10_layOut_29 rfl (by omega) (by omega) ?_
      refine G_iload_n (pc := 32) dX10_layOut_32 rfl ?_
      refine G_i2l (pc := 33) dX10_layOut_33 (by omega) ?_
      refine G_iload_n (pc := 34) dX10_layOut_34 rfl ?_
      refine G_i2l (pc := 35) dX10_layOut_35 (by omega) ?_
      refine G_lmul (pc := 36) dX10_layOut_36 ?_
      refine G_goto (pc := 37) 61 dX10_layOut_37 rfl ?_
      refine S_last (pc := 61) dX10_layOut_61 (by assumption) (by omega) ?_
      refine G_ls (ls' := [(3, _), (2, _), (0, _), (1, _)]) (lsub_c rfl (lsub_c rfl (lsub_c rfl (lsub_c rfl lsub_n)))) ?_
      exact K62
    · rw [if_neg c1] at K62
      refine G_iload_n (pc := 9) dX10_layOut_9 rfl ?_
      refine G_bipush (pc := 10) dX10_layOut_10 rfl ?_
      refine G_icmp_gt_f (pc := 12) 162 dX10_layOut_12 rfl (by omega) (by omega) ?_
      refine G_iload_n (pc := 15) dX10_layOut_15 rfl ?_
      refine G_iconst (pc := 16) dX10_layOut_16 ?_
      refine G_iadd (pc := 17) dX10_layOut_17 ?_
      refine G_iconst (pc := 18) dX10_layOut_18 ?_
      refine G_idivP (pc := 19) dX10_layOut_19 (by omega) ?_
      refine G_istore (pc := 20) (ls' := [(4, _), (3, _), (2, _), (0, _), (1, _)]) dX10_layOut_20 (by decide) rfl ?_
      refine S_aload_n (pc := 22) dX10_layOut_22 rfl ?_
      refine S_getR (pc := 23) dX10_layOut_23 fX10_23 (by assumption) rfl (by assumption) ?_
      refine G_iload_n (pc := 26) dX10_layOut_26 rfl ?_
      refine G_iload_n (pc := 27) dX10_layOut_27 rfl ?_
      refine G_iload_n (pc := 28) dX10_layOut_28 rfl ?_
      refine G_icmp_gt_t (pc := 29) 40 dX10_layOut_29 rfl (by omega) (by omega) ?_
      refine G_ldc2 (pc := 40) (z := 2) dX10_layOut_40 coX10_115 rfl ?_
      refine S_aload_n (pc := 43) dX10_layOut_43 rfl ?_
      refine S_getR (pc := 44) dX10_layOut_44 fX10_23 (by assumption) rfl (by assumption) ?_
      refine G_iload (pc := 47) dX10_layOut_47 rfl ?_
      refine S_lald (pc := 49) dX10_layOut_49 (by assumption) (by omega) ?_
      rw [h1]
      refine G_lmul (pc := 50) dX10_layOut_50 ?_
      refine S_aload_n (pc := 51) dX10_layOut_51 rfl ?_
      refine S_getR (pc := 52) dX10_layOut_52 fX10_23 (by assumption) rfl (by assumption) ?_
      refine G_iload_n (pc := 55) dX10_layOut_55 rfl ?_
      refine G_iload (pc := 56) dX10_layOut_56 rfl ?_
      refine G_isub (pc := 58) dX10_layOut_58 ?_
      refine S_lald (pc := 59) dX10_layOut_59 (by assumption) (by omega) ?_
      rw [h1]
      refine G_ladd (pc := 60) dX10_layOut_60 ?_
      refine S_last (pc := 61) dX10_layOut_61 (by assumption) (by omega) ?_
      refine G_ls (ls' := [(3, _), (2, _), (0, _), (1, _)]) (lsub_c rfl (lsub_c rfl (lsub_c rfl (lsub_c rfl lsub_n)))) ?_
      exact K62
set_option maxRecDepth 100000 in
set_option maxHeartbeats 4000000 in
theorem c_X10_layOut {g : GC} {w wy kd cut : Int} {sh : SH} {S : SS} {n : Nat} {Q : Option Value → GA → Nat → Prop} (hV : MvW sh S w) (hL : MlW sh S) (hwy : 0 ≤ wy ∧ wy < w) (hkd : S.2.1 98 wy = kd) (hcut : S.2.1 99 wy = cut) (hk : 0 ≤ kd ∧ kd ≤ 5) (hc : 1 ≤ cut ∧ cut ≤ 16)
    (hq : ∀ S' : SS, MScr S S' → S'.2.1 97 = S.2.1 97 → S'.1 = S.1 → S'.2.1 100 = (lyO kd cut (S.2.1 100) (S.2.1 101) 33).1 → S'.2.1 101 = (lyO kd cut (S.2.1 100) (S.2.1 101) 33).2 → Q none (hp g sh S') n) : GCall g mX10_layOut 1 0 0 [gr g 96, .int (iI wy)] (hp g sh S) n Q := by
  have hV' := hV
  obtain ⟨h96, q4, q5, h98, h99, hw, hwb, r98, r99⟩ := hV'
  refine GCall.of (by decide) (Nat.le_of_ble_eq_true rfl) (ls := [(0, _), (1, _)]) rfl ?_
  refine S_aload_n (pc := 0) dX10_layOut_0 rfl ?_
  refine S_getR (pc := 1) dX10_layOut_1 fX10_20 (by assumption) rfl (by assumption) ?_
  refine G_iload_n (pc := 4) dX10_layOut_4 rfl ?_
  refine S_iald (pc := 5) dX10_layOut_5 (by assumption) (by omega) ?_
  rw [hcut]
  refine G_istore_n (pc := 6) (ls' := [(2, _), (0, _), (1, _)]) dX10_layOut_6 (by decide) rfl ?_
  refine G_iconst (pc := 7) dX10_layOut_7 ?_
  refine G_istore_n (pc := 8) (ls' := [(3, _), (2, _), (0, _), (1, _)]) dX10_layOut_8 (by decide) rfl ?_
  exact l_X10_layOut hwy hkd hcut hk hc hq 33 0 S (by omega) hV hL MScr_rf rfl rfl rfl rfl
/-- the tables don't rest on what stood there -/
theorem lyO_ind {kd cut : Int} {X0 Y0 X1 Y1 : Int → Int} (hc : 1 ≤ cut) : ∀ (s : Nat) (j : Int), 0 ≤ j → j < s → (lyO kd cut X0 Y0 s).1 j = (lyO kd cut X1 Y1 s).1 j ∧ (lyO kd cut X0 Y0 s).2 j = (lyO kd cut X1 Y1 s).2 j
  | 0, j, h0, h1 => by omega
  | s + 1, j, h0, h1 => by
    have ih := lyO_ind (kd := kd) (X0 := X0) (Y0 := Y0) (X1 := X1) (Y1 := Y1) hc s
    have eS : lyS cut (lyO kd cut X0 Y0 s).1 s = lyS cut (lyO kd cut X1 Y1 s).1 s := by
      unfold lyS
      by_cases h : (s : Int) ≤ cut
      · rw [if_pos h, if_pos h]
      · rw [if_neg h, if_neg h, (ih (((s : Int) + 1) / 2) (by omega) (by omega)).1, (ih ((s : Int) - ((s : Int) + 1) / 2) (by omega) (by omega)).1]
    have eT : lyT kd cut (iup (lyO kd cut X0 Y0 s).1 s (lyS cut (lyO kd cut X0 Y0 s).1 s)) (lyO kd cut X0 Y0 s).2 s = lyT kd cut (iup (lyO kd cut X1 Y1 s).1 s (lyS cut (lyO kd cut X1 Y1 s).1 s)) (lyO kd cut X1 Y1 s).2 s := by
      unfold lyT
      by_cases h4 : kd = 4
      · rw [if_pos h4, if_pos h4]
        by_cases h : (s : Int) ≤ 3 * cut
        · rw [if_pos h, if_pos h, iup_at, iup_at, eS]
        · rw [if_neg h, if_neg h, (ih (((s : Int) + 2) / 3) (by omega) (by omega)).2]
      · rw [if_neg h4, if_neg h4]
        by_cases h : (s : Int) ≤ cut ∨ (s : Int) ≤ 2
        · rw [if_pos h, if_pos h]
        · rw [if_neg h, if_neg h, (ih (((s : Int) + 2) / 3) (by omega) (by omega)).2]
    show iup (lyO kd cut X0 Y0 s).1 s _ j = iup (lyO kd cut X1 Y1 s).1 s _ j ∧ iup (lyO kd cut X0 Y0 s).2 s _ j = iup (lyO kd cut X1 Y1 s).2 s _ j
    by_cases hj : j = s
    · rw [hj, iup_at, iup_at, iup_at, iup_at]
      exact ⟨eS, eT⟩
    · rw [iup_ne hj, iup_ne hj, iup_ne hj, iup_ne hj]
      exact ih j h0 (by omega)
def pwk (n : Int) : Int := if n ≤ 1 then 0 else if n ≤ 2 then 1 else if n ≤ 4 then 2 else if n ≤ 8 then 3 else if n ≤ 16 then 4 else if n ≤ 32 then 5 else 6
theorem shl1 {k : Int} (hk : 0 ≤ k ∧ k ≤ 6) : iI 1 <<< (iI k &&& 31) = iI (2 ^ k.toNat) := by
  have : k = 0 ∨ k = 1 ∨ k = 2 ∨ k = 3 ∨ k = 4 ∨ k = 5 ∨ k = 6 := by omega
  rcases this with e | e | e | e | e | e | e <;> rw [e] <;> decide
theorem shl1L {k : Int} (hk : 0 ≤ k ∧ k ≤ 6) : iL 1 <<< ((iI k).toInt64 &&& 63) = iL (2 ^ k.toNat) := by
  have : k = 0 ∨ k = 1 ∨ k = 2 ∨ k = 3 ∨ k = 4 ∨ k = 5 ∨ k = 6 := by omega
  rcases this with e | e | e | e | e | e | e <;> rw [e] <;> decide
theorem pw6 {k : Int} (hk : 0 ≤ k ∧ k ≤ 6) : 1 ≤ (2 : Int) ^ k.toNat ∧ (2 : Int) ^ k.toNat ≤ 64 := by
  have : k = 0 ∨ k = 1 ∨ k = 2 ∨ k = 3 ∨ k = 4 ∨ k = 5 ∨ k = 6 := by omega
  rcases this with e | e | e | e | e | e | e <;> rw [e] <;> decide
theorem pwk_le {n k : Int} (hn : 1 ≤ n ∧ n ≤ 64) (hk : 0 ≤ k ∧ k ≤ pwk n) : (k = pwk n → n ≤ 2 ^ k.toNat) ∧ (k ≠ pwk n → ¬ n ≤ 2 ^ k.toNat) := by
  have hb : pwk n ≤ 6 := by unfold pwk; split <;> (try split) <;> (try split) <;> (try split) <;> (try split) <;> (try split) <;> omega
  have : k = 0 ∨ k = 1 ∨ k = 2 ∨ k = 3 ∨ k = 4 ∨ k = 5 ∨ k = 6 := by omega
  have hl : n ≤ 1 ∧ pwk n = 0 ∨ (1 < n ∧ n ≤ 2) ∧ pwk n = 1 ∨ (2 < n ∧ n ≤ 4) ∧ pwk n = 2 ∨ (4 < n ∧ n ≤ 8) ∧ pwk n = 3 ∨ (8 < n ∧ n ≤ 16) ∧ pwk n = 4 ∨ (16 < n ∧ n ≤ 32) ∧ pwk n = 5 ∨ 32 < n ∧ pwk n = 6 := by
    unfold pwk; split <;> (try split) <;> (try split) <;> (try split) <;> (try split) <;> (try split) <;> omega
  rcases this with e | e | e | e | e | e | e <;> subst e
  · have e2 : (2 : Int) ^ (0 : Int).toNat = 1 := by decide
    rw [e2]; omega
  · have e2 : (2 : Int) ^ (1 : Int).toNat = 2 := by decide
    rw [e2]; omega
  · have e2 : (2 : Int) ^ (2 : Int).toNat = 4 := by decide
    rw [e2]; omega
  · have e2 : (2 : Int) ^ (3 : Int).toNat = 8 := by decide
    rw [e2]; omega
  · have e2 : (2 : Int) ^ (4 : Int).toNat = 16 := by decide
    rw [e2]; omega
  · have e2 : (2 : Int) ^ (5 : Int).toNat = 32 := by decide
    rw [e2]; omega
  · have e2 : (2 : Int) ^ (6 : Int).toNat = 64 := by decide
    rw [e2]; omega
theorem pwk_bd {n : Int} : 0 ≤ pwk n ∧ pwk n ≤ 6 := by unfold pwk; split <;> (try split) <;> (try split) <;> (try split) <;> (try split) <;> (try split) <;> omega
set_option maxRecDepth 100000 in
set_option maxHeartbeats 4000000 in
theorem l_X10_powerFor {g : GC} {h : GA} {n : Nat} {v : Int} {Q : Option Value → GA → Nat → Prop} (hv : 1 ≤ v ∧ v ≤ 64) (hq : Q (some (.int (iI (pwk v)))) h n) : ∀ (f : Nat) (k : Int), k + f = pwk v → 0 ≤ k → G g mX10_powerFor 1 0 0 2 [(1, .int (iI k)), (0, .int (iI v))] [] h n 0 0 Q := by
  intro f
  have hb := pwk_bd (n := v)
  induction f with
  | zero =>
    intro k hk h0
    have h1 := (pwk_le hv (k := k) (by omega)).1 (by omega)
    have hp := pw6 (k := k) (by omega)
    refine G_iconst (pc := 2) dX10_powerFor_2 ?_
    refine G_iload_n (pc := 3) dX10_powerFor_3 rfl ?_
    refine G_ishl (pc := 4) dX10_powerFor_4 (shl1 (by omega)) ?_
    refine G_iload_n (pc := 5) dX10_powerFor_5 rfl ?_
    refine G_icmp_ge_t (pc := 6) 15 dX10_powerFor_6 rfl (by omega) (by omega) ?_
    refine G_iload_n (pc := 15) dX10_powerFor_15 rfl ?_
    refine G_iret (pc := 16) dX10_powerFor_16 rfl (by decide) ?_
    rw [show k = pwk v by omega]
    exact hq
  | succ f ih =>
    intro k hk h0
    have h1 := (pwk_le hv (k := k) (by omega)).2 (by omega)
    have hp := pw6 (k := k) (by omega)
    refine G_iconst (pc := 2) dX10_powerFor_2 ?_
    refine G_iload_n (pc := 3) dX10_powerFor_3 rfl ?_
    refine G_ishl (pc := 4) dX10_powerFor_4 (shl1 (by omega)) ?_
    refine G_iload_n (pc := 5) dX10_powerFor_5 rfl ?_
    refine G_icmp_ge_f (pc := 6) 15 dX10_powerFor_6 rfl (by omega) (by omega) ?_
    refine G_iinc (pc := 9) (ls' := [(1, _), (0, _)]) dX10_powerFor_9 rfl (by decide) rfl ?_
    refine G_goto (pc := 12) 2 dX10_powerFor_12 rfl ?_
    exact ih (k + 1) (by omega) (by omega)
set_option maxRecDepth 100000 in
set_option maxHeartbeats 4000000 in
theorem c_X10_powerFor {g : GC} {h : GA} {n : Nat} {v : Int} {Q : Option Value → GA → Nat → Prop} (hv : 1 ≤ v ∧ v ≤ 64) (hq : Q (some (.int (iI (pwk v)))) h n) : GCall g mX10_powerFor 1 0 0 [.int (iI v)] h n Q := by
  have hb := pwk_bd (n := v)
  refine GCall.of (by decide) (Nat.le_of_ble_eq_true rfl) (ls := [(0, _)]) rfl ?_
  refine G_iconst (pc := 0) dX10_powerFor_0 ?_
  refine G_istore_n (pc := 1) (ls' := [(1, _), (0, _)]) dX10_powerFor_1 (by decide) rfl ?_
  exact l_X10_powerFor hv hq (pwk v).toNat 0 (by omega) (Int.le_refl _)
/-- 1 where both are one -/
noncomputable def smf (A B : Int → Int) : Int := @ite Int (A = B) (Classical.propDecidable _) 1 0
theorem smf_t {A B : Int → Int} (h : A = B) : smf A B = 1 := if_pos h
theorem smf_f {A B : Int → Int} (h : A ≠ B) : smf A B = 0 := if_neg h
theorem smf_bd {A B : Int → Int} : smf A B = 0 ∨ smf A B = 1 := by
  by_cases h : A = B
  · exact Or.inr (smf_t h)
  · exact Or.inl (smf_f h)
set_option maxRecDepth 100000 in
set_option maxHeartbeats 4000000 in
theorem l_X10_same {g : GC} {p a b : Int} {sh : SH} {S : SS} {n : Nat} {Q : Option Value → GA → Nat → Prop} (hW : MdW p sh S) (ha : 0 ≤ a ∧ a < 8) (hb : 0 ≤ b ∧ b < 8) (sa : Sup (mg S a) 32) (sb : Sup (mg S b) 32) (hq : Q (some (.int (iI (smf (mg S a) (mg S b))))) (hp g sh S) n) :
    ∀ (k : Nat) (i v : Int), i + k = 32 → 0 ≤ i → (v = 0 ∨ v = 1) → (v = 1 ↔ ∀ j : Int, 0 ≤ j → j < i → mg S a j = mg S b j) → G g mX10_same 1 0 0 5 [(4, .int (iI i)), (3, .int (iI v)), (0, gr g 96), (1, .int (iI a)), (2, .int (iI b))] [] (hp g sh S) n 0 0 Q := by
  have hW' := hW
  obtain ⟨hP, h96, hp1, p2, h97, hred⟩ := hW'
  have hpb := hP.bd
  intro k
  induction k with
  | zero =>
    intro i v hi h0 hv hall
    have hfin : v = smf (mg S a) (mg S b) := by
      by_cases e : mg S a = mg S b
      · rw [smf_t e]
        exact hall.mpr (fun j _ _ => by rw [e])
      · rw [smf_f e]
        rcases hv with hv | hv
        · exact hv
        · refine absurd (funext fun j => ?_) e
          by_cases hj : 0 ≤ j ∧ j < 32
          · exact hall.mp hv j hj.1 (by omega)
          · rw [sa j (by omega), sb j (by omega)]
    have hnar : narrow .boolean (.int (iI v)) = .int (iI v) := by rcases hv with e | e <;> rw [e] <;> first | exact nar_z0 | exact nar_z1
    refine G_iload (pc := 5) dX10_same_5 rfl ?_
    refine G_bipush (pc := 7) dX10_same_7 rfl ?_
    refine G_icmp_ge_t (pc := 9) 55 dX10_same_9 rfl (by omega) (by omega) ?_
    refine G_iload_n (pc := 55) dX10_same_55 rfl ?_
    refine G_zret (pc := 56) dX10_same_56 rfl (by assumption) (by decide) ?_
    rw [hfin]
    exact hq
  | succ k ih =>
    intro i v hi h0 hv hall
    have e1 : S.2.1 97 (80 * a + i) = mg S a i := mg_at (by omega) rfl
    have e2 : S.2.1 97 (80 * b + i) = mg S b i := mg_at (by omega) rfl
    have hx := mg_red (r := a) hW i
    have hy := mg_red (r := b) hW i
    have hn := ih (i + 1)
    refine G_iload (pc := 5) dX10_same_5 rfl ?_
    refine G_bipush (pc := 7) dX10_same_7 rfl ?_
    refine G_icmp_ge_f (pc := 9) 55 dX10_same_9 rfl (by omega) (by omega) ?_
    refine G_iload_n (pc := 12) dX10_same_12 rfl ?_
    refine G_if_eq (pc := 13) 47 dX10_same_13 rfl (by omega) (fun c13 => ?_) (fun c13 => ?_)
    · skip
      refine G_iconst (pc := 47) dX10_same_47 ?_
      refine G_istore_n (pc := 48) (ls' := [(3, _), (4, _), (0, _), (1, _), (2, _)]) dX10_same_48 (by decide) rfl ?_
      refine G_iinc (pc := 49) (ls' := [(4, _), (3, _), (0, _), (1, _), (2, _)]) dX10_same_49 rfl (by decide) rfl ?_
      refine G_goto (pc := 52) 5 dX10_same_52 rfl ?_
      refine hn _ (by omega) (by omega) (by omega) ⟨fun z j g1 g2 => ?_, fun z => ?_⟩
      · first
          | (exfalso; omega)
          | (by_cases hj : j = i
             · rw [hj]; omega
             · exact hall.mp (by omega) j g1 (by omega))
      · first
          | rfl
          | (exfalso
             have z1 := hall.mpr (fun j g1 g2 => z j g1 (by omega))
             have z2 := z i h0 (by omega)
             omega)
    · skip
      refine S_aload_n (pc := 16) dX10_same_16 rfl ?_
      refine S_getR (pc := 17) dX10_same_17 fX10_13 (by assumption) rfl (by assumption) ?_
      refine G_bipush (pc := 20) dX10_same_20 rfl ?_
      refine G_iload_n (pc := 22) dX10_same_22 rfl ?_
      refine G_imul (pc := 23) dX10_same_23 ?_
      refine G_iload (pc := 24) dX10_same_24 rfl ?_
      refine G_iadd (pc := 26) dX10_same_26 ?_
      refine S_iald (pc := 27) dX10_same_27 (by assumption) (by omega) ?_
      rw [e1]
      refine S_aload_n (pc := 28) dX10_same_28 rfl ?_
      refine S_getR (pc := 29) dX10_same_29 fX10_13 (by assumption) rfl (by assumption) ?_
      refine G_bipush (pc := 32) dX10_same_32 rfl ?_
      refine G_iload_n (pc := 34) dX10_same_34 rfl ?_
      refine G_imul (pc := 35) dX10_same_35 ?_
      refine G_iload (pc := 36) dX10_same_36 rfl ?_
      refine G_iadd (pc := 38) dX10_same_38 ?_
      refine S_iald (pc := 39) dX10_same_39 (by assumption) (by omega) ?_
      rw [e2]
      refine G_icmp_ne (pc := 40) 47 dX10_same_40 rfl (by omega) (fun c40 => ?_) (fun c40 => ?_)
      · skip
        refine G_iconst (pc := 47) dX10_same_47 ?_
        refine G_istore_n (pc := 48) (ls' := [(3, _), (4, _), (0, _), (1, _), (2, _)]) dX10_same_48 (by decide) rfl ?_
        refine G_iinc (pc := 49) (ls' := [(4, _), (3, _), (0, _), (1, _), (2, _)]) dX10_same_49 rfl (by decide) rfl ?_
        refine G_goto (pc := 52) 5 dX10_same_52 rfl ?_
        refine hn _ (by omega) (by omega) (by omega) ⟨fun z j g1 g2 => ?_, fun z => ?_⟩
        · first
            | (exfalso; omega)
            | (by_cases hj : j = i
               · rw [hj]; omega
               · exact hall.mp (by omega) j g1 (by omega))
        · first
            | rfl
            | (exfalso
               have z1 := hall.mpr (fun j g1 g2 => z j g1 (by omega))
               have z2 := z i h0 (by omega)
               omega)
      · skip
        refine G_iconst (pc := 43) dX10_same_43 ?_
        refine G_goto (pc := 44) 48 dX10_same_44 rfl ?_
        refine G_istore_n (pc := 48) (ls' := [(3, _), (4, _), (0, _), (1, _), (2, _)]) dX10_same_48 (by decide) rfl ?_
        refine G_iinc (pc := 49) (ls' := [(4, _), (3, _), (0, _), (1, _), (2, _)]) dX10_same_49 rfl (by decide) rfl ?_
        refine G_goto (pc := 52) 5 dX10_same_52 rfl ?_
        refine hn _ (by omega) (by omega) (by omega) ⟨fun z j g1 g2 => ?_, fun z => ?_⟩
        · first
            | (exfalso; omega)
            | (by_cases hj : j = i
               · rw [hj]; omega
               · exact hall.mp (by omega) j g1 (by omega))
        · first
            | rfl
            | (exfalso
               have z1 := hall.mpr (fun j g1 g2 => z j g1 (by omega))
               have z2 := z i h0 (by omega)
               omega)
set_option maxRecDepth 100000 in
set_option maxHeartbeats 4000000 in
theorem c_X10_same {g : GC} {p a b : Int} {sh : SH} {S : SS} {n : Nat} {Q : Option Value → GA → Nat → Prop} (hW : MdW p sh S) (ha : 0 ≤ a ∧ a < 8) (hb : 0 ≤ b ∧ b < 8) (sa : Sup (mg S a) 32) (sb : Sup (mg S b) 32) (hq : Q (some (.int (iI (smf (mg S a) (mg S b))))) (hp g sh S) n) : GCall g mX10_same 1 0 0 [gr g 96, .int (iI a), .int (iI b)] (hp g sh S) n Q := by
  refine GCall.of (by decide) (Nat.le_of_ble_eq_true rfl) (ls := [(0, _), (1, _), (2, _)]) rfl ?_
  refine G_iconst (pc := 0) dX10_same_0 ?_
  refine G_istore_n (pc := 1) (ls' := [(3, _), (0, _), (1, _), (2, _)]) dX10_same_1 (by decide) rfl ?_
  refine G_iconst (pc := 2) dX10_same_2 ?_
  refine G_istore (pc := 3) (ls' := [(4, _), (3, _), (0, _), (1, _), (2, _)]) dX10_same_3 (by decide) rfl ?_
  exact l_X10_same hW ha hb sa sb hq 32 0 1 (by omega) (by omega) (Or.inr rfl) ⟨fun _ j g1 g2 => absurd g2 (by omega), fun _ => rfl⟩
