/-! the Model: lay -/
def lyd (p : Int) (xs : Int → Int) (lo t : Int) : Int → Int := fun j => if 0 ≤ j ∧ j < t then xs (lo + j) % p else 0
theorem lyd_0 {p : Int} {xs : Int → Int} {lo : Int} : lyd p xs lo 0 = pz := funext fun j => if_neg (by omega)
theorem lyd_sup {p : Int} {xs : Int → Int} {lo t : Int} (h : t ≤ 80) : Sup (lyd p xs lo t) 80 := fun j hj => if_neg (by omega)
theorem lyd_red {p : Int} {xs : Int → Int} {lo t : Int} (hp : 0 < p) : Red p (lyd p xs lo t) := fun j => by
  unfold lyd
  by_cases h : 0 ≤ j ∧ j < t
  · rw [if_pos h]; exact em_bd hp
  · rw [if_neg h]; omega
theorem lyd_S {p : Int} {xs : Int → Int} {lo t : Int} (h : 0 ≤ t) : iup (lyd p xs lo t) t (xs (lo + t) % p) = lyd p xs lo (t + 1) := by
  funext k
  unfold iup lyd
  by_cases hk : k = t
  · rw [if_pos hk, if_pos (by omega), hk]
  · rw [if_neg hk]
    by_cases h2 : 0 ≤ k ∧ k < t
    · rw [if_pos h2, if_pos (by omega)]
    · rw [if_neg h2, if_neg (by omega)]
set_option maxRecDepth 100000 in
set_option maxHeartbeats 4000000 in
theorem l_X10_lay {g : GC} {p a s so at_ nn : Int} {sh : SH} {S : SS} {n : Nat} {Q : Option Value → GA → Nat → Prop} (hW : MdW p sh S) (hV : MsW sh S) (ha : 0 ≤ a ∧ a < 8) (hs : 0 ≤ s ∧ s < 4) (hn : 0 ≤ nn ∧ nn ≤ 32) (hat : (-2147483648 ≤ at_ ∧ at_ ≤ 2147483647) ∧ (0 < nn → 0 ≤ at_ ∧ at_ + nn ≤ 40))
    (hq : Q (some (.int (iI (plen (lyd p (S.2.1 112) (40 * s + at_) nn) 80)))) (hp g sh (mset S a (lyd p (S.2.1 112) (40 * s + at_) nn))) n) : ∀ (k : Nat) (t : Int), t + k = nn → 0 ≤ t → G g mX10_lay 3 0 0 106 [(6, .int (iI t)), (0, gr g 96), (1, .int (iI a)), (2, .int (iI s)), (3, .int (iI so)), (4, .int (iI at_)), (5, .int (iI nn))] [] (hp g sh (mset S a (lyd p (S.2.1 112) (40 * s + at_) t))) n 0 0 Q := by
  intro k
  have hW' := hW
  obtain ⟨hP, h96, hp1, p2, h97, hred⟩ := hW'
  have hpb := hP.bd
  obtain ⟨_, q35, q36, q37, q38, h109, h110, h111, h112, r109, r110, r111, r11, r112⟩ := hV
  induction k with
  | zero =>
    intro t ht h0
    have W2 : MdW p sh (mset S a (lyd p (S.2.1 112) (40 * s + at_) t)) := MdW_set hW (lyd_red (by omega))
    refine G_iload (pc := 106) dX10_lay_106 rfl ?_
    refine G_iload (pc := 108) dX10_lay_108 rfl ?_
    refine G_icmp_ge_t (pc := 110) 150 dX10_lay_110 rfl (by omega) (by omega) ?_
    refine S_aload_n (pc := 150) dX10_lay_150 rfl ?_
    refine G_iload_n (pc := 151) dX10_lay_151 rfl ?_
    refine S_callV (pc := 152) (ci := 10) (d2 := 1) (mc2 := 0) (ms2 := 0) (As := [_]) dX10_lay_152 kX10_length lkX10_94 (by assumption) rfl rfl rfl (Nat.le_of_ble_eq_true rfl) ⟨by decide, by decide⟩ (by decide) ?_
    refine c_X10_length W2 (by omega) ?_
    rw [mg_set (lyd_sup (by omega))]
    show G _ _ _ _ _ _ _ _ _ _ _ _ _
    refine G_iret (pc := 155) dX10_lay_155 rfl (by decide) ?_
    rw [show t = nn by omega]
    exact hq
  | succ k ih =>
    intro t ht h0
    have W2 : MdW p sh (mset S a (lyd p (S.2.1 112) (40 * s + at_) t)) := MdW_set hW (lyd_red (by omega))
    have hat2 := hat.2 (by omega)
    have e1 : (mset S a (lyd p (S.2.1 112) (40 * s + at_) t)).2.1 112 (40 * s + at_ + t) = S.2.1 112 (40 * s + at_ + t) := by
      unfold mset; rw [putA_ne (by decide)]
    have hx := r112 (40 * s + at_ + t)
    refine G_iload (pc := 106) dX10_lay_106 rfl ?_
    refine G_iload (pc := 108) dX10_lay_108 rfl ?_
    refine G_icmp_ge_f (pc := 110) 150 dX10_lay_110 rfl (by omega) (by omega) ?_
    refine S_aload_n (pc := 113) dX10_lay_113 rfl ?_
    refine S_getR (pc := 114) dX10_lay_114 fX10_13 (by assumption) rfl (by assumption) ?_
    refine G_bipush (pc := 117) dX10_lay_117 rfl ?_
    refine G_iload_n (pc := 119) dX10_lay_119 rfl ?_
    refine G_imul (pc := 120) dX10_lay_120 ?_
    refine G_iload (pc := 121) dX10_lay_121 rfl ?_
    refine G_iadd (pc := 123) dX10_lay_123 ?_
    refine S_aload_n (pc := 124) dX10_lay_124 rfl ?_
    refine S_aload_n (pc := 125) dX10_lay_125 rfl ?_
    refine S_getR (pc := 126) dX10_lay_126 fX10_61 (by assumption) rfl (by assumption) ?_
    refine G_bipush (pc := 129) dX10_lay_129 rfl ?_
    refine G_iload_n (pc := 131) dX10_lay_131 rfl ?_
    refine G_imul (pc := 132) dX10_lay_132 ?_
    refine G_iload (pc := 133) dX10_lay_133 rfl ?_
    refine G_iadd (pc := 135) dX10_lay_135 ?_
    refine G_iload (pc := 136) dX10_lay_136 rfl ?_
    refine G_iadd (pc := 138) dX10_lay_138 ?_
    refine S_iald (pc := 139) dX10_lay_139 (by assumption) (by omega) ?_
    rw [e1]
    refine S_callV (pc := 140) (ci := 10) (d2 := 1) (mc2 := 0) (ms2 := 0) (As := [_]) dX10_lay_140 kX10_rest lkX10_102 (by assumption) rfl rfl rfl (Nat.le_of_ble_eq_true rfl) ⟨by decide, by decide⟩ (by decide) ?_
    refine c_X10_rest W2 (by omega) ?_
    show G _ _ _ _ _ _ _ _ _ _ _ _ _
    refine S_iast (pc := 143) dX10_lay_143 (by assumption) (by omega) ?_
    refine G_iinc (pc := 144) (ls' := [(6, _), (0, _), (1, _), (2, _), (3, _), (4, _), (5, _)]) dX10_lay_144 rfl (by decide) rfl ?_
    refine G_goto (pc := 147) 106 dX10_lay_147 rfl ?_
    rw [mset_setA (by omega), lyd_S h0]
    exact ih (t + 1) (by omega) (by omega)
set_option maxRecDepth 100000 in
set_option maxHeartbeats 4000000 in
theorem c_X10_lay {g : GC} {p a s so at_ nn : Int} {sh : SH} {S : SS} {n : Nat} {Q : Option Value → GA → Nat → Prop} (hW : MdW p sh S) (hV : MsW sh S) (hr : (-2147483648 ≤ a ∧ a ≤ 2147483647) ∧ (-2147483648 ≤ s ∧ s ≤ 2147483647) ∧ (-2147483648 ≤ so ∧ so ≤ 2147483647) ∧ (-2147483648 ≤ at_ ∧ at_ ≤ 2147483647) ∧ (-2147483648 ≤ nn ∧ nn ≤ 2147483647))
    (h0 : ¬ ((0 ≤ a ∧ a < 8) ∧ (0 ≤ s ∧ s < 4) ∧ (0 ≤ so ∧ so ≤ 2) ∧ (0 ≤ nn ∧ nn ≤ 32)) → Q (some (.int (iI (-2)))) (hp g sh S) n)
    (h1 : (0 ≤ a ∧ a < 8) → (0 ≤ s ∧ s < 4) → (0 ≤ so ∧ so ≤ 2) → (0 ≤ nn ∧ nn ≤ 32) → S.2.1 109 s = 1 → S.2.1 110 s ≠ so → Q (some (.int (iI (-13)))) (hp g sh S) n)
    (h2 : (0 ≤ a ∧ a < 8) → (0 ≤ s ∧ s < 4) → (0 ≤ so ∧ so ≤ 2) → (0 ≤ nn ∧ nn ≤ 32) → S.2.1 109 s = 0 → Q (some (.int (iI (-11)))) (hp g sh S) n)
    (h3 : (0 ≤ a ∧ a < 8) → (0 ≤ s ∧ s < 4) → (0 ≤ so ∧ so ≤ 2) → (0 ≤ nn ∧ nn ≤ 32) → S.2.1 109 s = 1 → S.2.1 110 s = so → ¬ (0 < nn → 0 ≤ at_ ∧ at_ ≤ S.2.1 111 s - nn) → Q (some (.int (iI (-12)))) (hp g sh S) n)
    (h4 : (0 ≤ a ∧ a < 8) → (0 ≤ s ∧ s < 4) → (0 ≤ so ∧ so ≤ 2) → (0 ≤ nn ∧ nn ≤ 32) → S.2.1 109 s = 1 → S.2.1 110 s = so → (0 < nn → 0 ≤ at_ ∧ at_ ≤ S.2.1 111 s - nn) → Q (some (.int (iI (plen (lyd p (S.2.1 112) (40 * s + at_) nn) 80)))) (hp g sh (mset S a (lyd p (S.2.1 112) (40 * s + at_) nn))) n) :
    GCall g mX10_lay 3 0 0 [gr g 96, .int (iI a), .int (iI s), .int (iI so), .int (iI at_), .int (iI nn)] (hp g sh S) n Q := by
  have hV' := hV
  obtain ⟨h96, q35, q36, q37, q38, h109, h110, h111, h112, r109, r110, r111, r11, r112⟩ := hV'
  obtain ⟨hr1, hr2, hr3, hr4, hr5⟩ := hr
  have ht := r109 s
  have ho := r110 s
  have hzz := r11 s
  refine GCall.of (by decide) (Nat.le_of_ble_eq_true rfl) (ls := [(0, _), (1, _), (2, _), (3, _), (4, _), (5, _)]) rfl ?_
  have hgo : (0 ≤ a ∧ a < 8) → (0 ≤ s ∧ s < 4) → (0 ≤ so ∧ so ≤ 2) → (0 ≤ nn ∧ nn ≤ 32) → S.2.1 109 s = 1 → S.2.1 110 s = so → (0 < nn → 0 ≤ at_ ∧ at_ ≤ S.2.1 111 s - nn) → G g mX10_lay 3 0 0 98 [(0, gr g 96), (1, .int (iI a)), (2, .int (iI s)), (3, .int (iI so)), (4, .int (iI at_)), (5, .int (iI nn))] [] (hp g sh S) n 0 0 Q := by
    intro a1 a2 a3 a4 a5 a6 a7
    have hz2 := hzz a5
    refine S_aload_n (pc := 98) dX10_lay_98 rfl ?_
    refine G_iload_n (pc := 99) dX10_lay_99 rfl ?_
    refine S_callV (pc := 100) (ci := 10) (d2 := 1) (mc2 := 0) (ms2 := 0) (As := [_]) dX10_lay_100 kX10_empty lkX10_105 (by assumption) rfl rfl rfl (Nat.le_of_ble_eq_true rfl) ⟨by decide, by decide⟩ (by decide) ?_
    refine c_X10_empty hW (by omega) ?_
    show G _ _ _ _ _ _ _ _ _ _ _ _ _
    refine G_iconst (pc := 103) dX10_lay_103 ?_
    refine G_istore (pc := 104) (ls' := [(6, _), (0, _), (1, _), (2, _), (3, _), (4, _), (5, _)]) dX10_lay_104 (by decide) rfl ?_
    have := l_X10_lay (so := so) hW hV a1 a2 a4 ⟨hr4, fun h => by have := a7 h; omega⟩ (h4 a1 a2 a3 a4 a5 a6 a7) nn.toNat 0 (by omega) (by omega)
    rw [lyd_0] at this
    exact this
  refine G_iload_n (pc := 0) dX10_lay_0 rfl ?_
  refine G_callS (pc := 1) (d2 := 2) (mc2 := 0) (ms2 := 0) (As := [_]) dX10_lay_1 kX10_isPoly lkX10_98 rfl rfl (Nat.le_of_ble_eq_true rfl) ⟨by decide, by decide⟩ (by decide) ?_
  refine c_X10_isPoly (by omega) (fun w1 => ?_) (fun w1 => ?_)
  · show G _ _ _ _ _ _ _ _ _ _ _ _ _
    refine G_if_eq_f (pc := 4) 34 dX10_lay_4 rfl (by decide) (by decide) ?_
    refine G_iload_n (pc := 7) dX10_lay_7 rfl ?_
    refine G_callS (pc := 8) (d2 := 2) (mc2 := 0) (ms2 := 0) (As := [_]) dX10_lay_8 kX10_isSheet lkX10_302 rfl rfl (Nat.le_of_ble_eq_true rfl) ⟨by decide, by decide⟩ (by decide) ?_
    refine c_X10_isSheet (by omega) (fun w8 => ?_) (fun w8 => ?_)
    · show G _ _ _ _ _ _ _ _ _ _ _ _ _
      refine G_if_eq_f (pc := 11) 34 dX10_lay_11 rfl (by decide) (by decide) ?_
      refine G_iload_n (pc := 14) dX10_lay_14 rfl ?_
      refine G_iconst (pc := 15) dX10_lay_15 ?_
      refine G_iconst (pc := 16) dX10_lay_16 ?_
      refine G_callS (pc := 17) (d2 := 1) (mc2 := 0) (ms2 := 0) (As := [_, _, _]) dX10_lay_17 kX10_in lkX10_86 rfl rfl (Nat.le_of_ble_eq_true rfl) ⟨by decide, by decide⟩ (by decide) ?_
      refine c_X10_in (by omega) (fun w17 => ?_) (fun w17 => ?_)
      · show G _ _ _ _ _ _ _ _ _ _ _ _ _
        refine G_if_eq_f (pc := 20) 34 dX10_lay_20 rfl (by decide) (by decide) ?_
        refine G_iload (pc := 23) dX10_lay_23 rfl ?_
        refine G_iconst (pc := 25) dX10_lay_25 ?_
        refine G_bipush (pc := 26) dX10_lay_26 rfl ?_
        refine G_callS (pc := 28) (d2 := 1) (mc2 := 0) (ms2 := 0) (As := [_, _, _]) dX10_lay_28 kX10_in lkX10_86 rfl rfl (Nat.le_of_ble_eq_true rfl) ⟨by decide, by decide⟩ (by decide) ?_
        refine c_X10_in (by omega) (fun w28 => ?_) (fun w28 => ?_)
        · show G _ _ _ _ _ _ _ _ _ _ _ _ _
          refine G_if_ne_t (pc := 31) 37 dX10_lay_31 rfl (by decide) (by decide) ?_
          refine S_aload_n (pc := 37) dX10_lay_37 rfl ?_
          refine S_getR (pc := 38) dX10_lay_38 fX10_51 (by assumption) rfl (by assumption) ?_
          refine G_iload_n (pc := 41) dX10_lay_41 rfl ?_
          refine S_zald (pc := 42) dX10_lay_42 (by assumption) (by omega) ?_
          refine G_if_eq (pc := 43) 59 dX10_lay_43 rfl (by omega) (fun c43 => ?_) (fun c43 => ?_)
          · skip
            refine S_aload_n (pc := 59) dX10_lay_59 rfl ?_
            refine S_getR (pc := 60) dX10_lay_60 fX10_51 (by assumption) rfl (by assumption) ?_
            refine G_iload_n (pc := 63) dX10_lay_63 rfl ?_
            refine S_zald (pc := 64) dX10_lay_64 (by assumption) (by omega) ?_
            refine G_if_ne (pc := 65) 71 dX10_lay_65 rfl (by omega) (fun c65 => ?_) (fun c65 => ?_)
            · skip
              refine G_iload (pc := 71) dX10_lay_71 rfl ?_
              refine G_if_le (pc := 73) 98 dX10_lay_73 rfl (by omega) (fun c73 => ?_) (fun c73 => ?_)
              · skip
                exact hgo (by omega) (by omega) (by omega) (by omega) (by omega) (by omega) (by omega)
              · skip
                refine G_iload (pc := 76) dX10_lay_76 rfl ?_
                refine G_if_lt (pc := 78) 95 dX10_lay_78 rfl (by omega) (fun c78 => ?_) (fun c78 => ?_)
                · skip
                  refine G_bipush (pc := 95) dX10_lay_95 rfl ?_
                  refine G_iret (pc := 97) dX10_lay_97 rfl (by decide) ?_
                  exact h3 (by omega) (by omega) (by omega) (by omega) (by omega) (by omega) (by omega)
                · skip
                  refine G_iload (pc := 81) dX10_lay_81 rfl ?_
                  refine S_aload_n (pc := 83) dX10_lay_83 rfl ?_
                  refine S_getR (pc := 84) dX10_lay_84 fX10_58 (by assumption) rfl (by assumption) ?_
                  refine G_iload_n (pc := 87) dX10_lay_87 rfl ?_
                  refine S_iald (pc := 88) dX10_lay_88 (by assumption) (by omega) ?_
                  have hz2 := hzz (by omega)
                  refine G_iload (pc := 89) dX10_lay_89 rfl ?_
                  refine G_isub (pc := 91) dX10_lay_91 ?_
                  refine G_icmp_le (pc := 92) 98 dX10_lay_92 rfl (by omega) (fun c92 => ?_) (fun c92 => ?_)
                  · skip
                    exact hgo (by omega) (by omega) (by omega) (by omega) (by omega) (by omega) (by omega)
                  · skip
                    refine G_bipush (pc := 95) dX10_lay_95 rfl ?_
                    refine G_iret (pc := 97) dX10_lay_97 rfl (by decide) ?_
                    exact h3 (by omega) (by omega) (by omega) (by omega) (by omega) (by omega) (by omega)
            · skip
              refine G_bipush (pc := 68) dX10_lay_68 rfl ?_
              refine G_iret (pc := 70) dX10_lay_70 rfl (by decide) ?_
              exact h2 (by omega) (by omega) (by omega) (by omega) (by omega)
          · skip
            refine S_aload_n (pc := 46) dX10_lay_46 rfl ?_
            refine S_getR (pc := 47) dX10_lay_47 fX10_55 (by assumption) rfl (by assumption) ?_
            refine G_iload_n (pc := 50) dX10_lay_50 rfl ?_
            refine S_iald (pc := 51) dX10_lay_51 (by assumption) (by omega) ?_
            refine G_iload_n (pc := 52) dX10_lay_52 rfl ?_
            refine G_icmp_eq (pc := 53) 59 dX10_lay_53 rfl (by omega) (fun c53 => ?_) (fun c53 => ?_)
            · skip
              refine S_aload_n (pc := 59) dX10_lay_59 rfl ?_
              refine S_getR (pc := 60) dX10_lay_60 fX10_51 (by assumption) rfl (by assumption) ?_
              refine G_iload_n (pc := 63) dX10_lay_63 rfl ?_
              refine S_zald (pc := 64) dX10_lay_64 (by assumption) (by omega) ?_
              refine G_if_ne (pc := 65) 71 dX10_lay_65 rfl (by omega) (fun c65 => ?_) (fun c65 => ?_)
              · skip
                refine G_iload (pc := 71) dX10_lay_71 rfl ?_
                refine G_if_le (pc := 73) 98 dX10_lay_73 rfl (by omega) (fun c73 => ?_) (fun c73 => ?_)
                · skip
                  exact hgo (by omega) (by omega) (by omega) (by omega) (by omega) (by omega) (by omega)
                · skip
                  refine G_iload (pc := 76) dX10_lay_76 rfl ?_
                  refine G_if_lt (pc := 78) 95 dX10_lay_78 rfl (by omega) (fun c78 => ?_) (fun c78 => ?_)
                  · skip
                    refine G_bipush (pc := 95) dX10_lay_95 rfl ?_
                    refine G_iret (pc := 97) dX10_lay_97 rfl (by decide) ?_
                    exact h3 (by omega) (by omega) (by omega) (by omega) (by omega) (by omega) (by omega)
                  · skip
                    refine G_iload (pc := 81) dX10_lay_81 rfl ?_
                    refine S_aload_n (pc := 83) dX10_lay_83 rfl ?_
                    refine S_getR (pc := 84) dX10_lay_84 fX10_58 (by assumption) rfl (by assumption) ?_
                    refine G_iload_n (pc := 87) dX10_lay_87 rfl ?_
                    refine S_iald (pc := 88) dX10_lay_88 (by assumption) (by omega) ?_
                    have hz2 := hzz (by omega)
                    refine G_iload (pc := 89) dX10_lay_89 rfl ?_
                    refine G_isub (pc := 91) dX10_lay_91 ?_
                    refine G_icmp_le (pc := 92) 98 dX10_lay_92 rfl (by omega) (fun c92 => ?_) (fun c92 => ?_)
                    · skip
                      exact hgo (by omega) (by omega) (by omega) (by omega) (by omega) (by omega) (by omega)
                    · skip
                      refine G_bipush (pc := 95) dX10_lay_95 rfl ?_
                      refine G_iret (pc := 97) dX10_lay_97 rfl (by decide) ?_
                      exact h3 (by omega) (by omega) (by omega) (by omega) (by omega) (by omega) (by omega)
              · skip
                refine G_bipush (pc := 68) dX10_lay_68 rfl ?_
                refine G_iret (pc := 70) dX10_lay_70 rfl (by decide) ?_
                exact h2 (by omega) (by omega) (by omega) (by omega) (by omega)
            · skip
              refine G_bipush (pc := 56) dX10_lay_56 rfl ?_
              refine G_iret (pc := 58) dX10_lay_58 rfl (by decide) ?_
              exact h1 (by omega) (by omega) (by omega) (by omega) (by omega) (by omega)
        · show G _ _ _ _ _ _ _ _ _ _ _ _ _
          refine G_if_ne_f (pc := 31) 37 dX10_lay_31 rfl (by decide) (by decide) ?_
          refine G_bipush (pc := 34) dX10_lay_34 rfl ?_
          refine G_iret (pc := 36) dX10_lay_36 rfl (by decide) ?_
          exact h0 (by omega)
      · show G _ _ _ _ _ _ _ _ _ _ _ _ _
        refine G_if_eq_t (pc := 20) 34 dX10_lay_20 rfl (by decide) (by decide) ?_
        refine G_bipush (pc := 34) dX10_lay_34 rfl ?_
        refine G_iret (pc := 36) dX10_lay_36 rfl (by decide) ?_
        exact h0 (by omega)
    · show G _ _ _ _ _ _ _ _ _ _ _ _ _
      refine G_if_eq_t (pc := 11) 34 dX10_lay_11 rfl (by decide) (by decide) ?_
      refine G_bipush (pc := 34) dX10_lay_34 rfl ?_
      refine G_iret (pc := 36) dX10_lay_36 rfl (by decide) ?_
      exact h0 (by omega)
  · show G _ _ _ _ _ _ _ _ _ _ _ _ _
    refine G_if_eq_t (pc := 4) 34 dX10_lay_4 rfl (by decide) (by decide) ?_
    refine G_bipush (pc := 34) dX10_lay_34 rfl ?_
    refine G_iret (pc := 36) dX10_lay_36 rfl (by decide) ?_
    exact h0 (by omega)
