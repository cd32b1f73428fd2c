/-! the Model: sheet -/
def zfl (xs : Int → Int) (lo t : Int) : Int → Int := fun k => if lo ≤ k ∧ k < lo + t then 0 else xs k
theorem zfl_0 {xs : Int → Int} {lo : Int} : zfl xs lo 0 = xs := funext fun k => if_neg (by omega)
theorem zfl_S {xs : Int → Int} {lo t : Int} (h : 0 ≤ t) : iup (zfl xs lo t) (lo + t) 0 = zfl xs lo (t + 1) := by
  funext k
  unfold iup zfl
  by_cases hk : k = lo + t
  · rw [if_pos hk, if_pos (by omega)]
  · rw [if_neg hk]
    by_cases h2 : lo ≤ k ∧ k < lo + t
    · rw [if_pos h2, if_pos (by omega)]
    · rw [if_neg h2, if_neg (by omega)]
set_option maxRecDepth 100000 in
set_option maxHeartbeats 4000000 in
theorem l_X10_sheet {g : GC} {s sort nn : Int} {sh : SH} {S : SS} {n : Nat} {Q : Option Value → GA → Nat → Prop} (h96 : sh 96 = some (.inl 10)) (q38 : S.2.2 96 38 = some 112) (h112 : sh 112 = some (.inr (1, 160))) (hs : 0 ≤ s ∧ s < 4) (hso : 0 ≤ sort ∧ sort ≤ 2) (hn : 0 ≤ nn ∧ nn ≤ 40)
    (hq : Q (some (.int (iI 1))) (hp g sh (putA S 112 (zfl (S.2.1 112) (40 * s) nn))) n) : ∀ (k : Nat) (t : Int), t + k = nn → 0 ≤ t → G g mX10_sheet 3 0 0 72 [(4, .int (iI t)), (0, gr g 96), (1, .int (iI s)), (2, .int (iI sort)), (3, .int (iI nn))] [] (hp g sh (putA S 112 (zfl (S.2.1 112) (40 * s) t))) n 0 0 Q := by
  intro k
  induction k with
  | zero =>
    intro t ht h0
    refine G_iload (pc := 72) dX10_sheet_72 rfl ?_
    refine G_iload_n (pc := 74) dX10_sheet_74 rfl ?_
    refine G_icmp_ge_t (pc := 75) 101 dX10_sheet_75 rfl (by omega) (by omega) ?_
    refine G_iconst (pc := 101) dX10_sheet_101 ?_
    refine G_iret (pc := 102) dX10_sheet_102 rfl (by decide) ?_
    rw [show t = nn by omega]
    exact hq
  | succ k ih =>
    intro t ht h0
    refine G_iload (pc := 72) dX10_sheet_72 rfl ?_
    refine G_iload_n (pc := 74) dX10_sheet_74 rfl ?_
    refine G_icmp_ge_f (pc := 75) 101 dX10_sheet_75 rfl (by omega) (by omega) ?_
    refine G_iload_n (pc := 78) dX10_sheet_78 rfl ?_
    refine G_if_lt_f (pc := 79) 101 dX10_sheet_79 rfl (by omega) (by omega) ?_
    refine S_aload_n (pc := 82) dX10_sheet_82 rfl ?_
    refine S_getR (pc := 83) dX10_sheet_83 fX10_61 (by assumption) rfl (by assumption) ?_
    refine G_bipush (pc := 86) dX10_sheet_86 rfl ?_
    refine G_iload_n (pc := 88) dX10_sheet_88 rfl ?_
    refine G_imul (pc := 89) dX10_sheet_89 ?_
    refine G_iload (pc := 90) dX10_sheet_90 rfl ?_
    refine G_iadd (pc := 92) dX10_sheet_92 ?_
    refine G_iconst (pc := 93) dX10_sheet_93 ?_
    refine S_iast (pc := 94) dX10_sheet_94 (by assumption) (by omega) ?_
    refine G_iinc (pc := 95) (ls' := [(4, _), (0, _), (1, _), (2, _), (3, _)]) dX10_sheet_95 rfl (by decide) rfl ?_
    refine G_goto (pc := 98) 72 dX10_sheet_98 rfl ?_
    rw [setA_putA, zfl_S h0]
    exact ih (t + 1) (by omega) (by omega)
set_option maxRecDepth 100000 in
set_option maxHeartbeats 4000000 in
theorem c_X10_sheet {g : GC} {s sort nn : Int} {sh : SH} {S : SS} {n : Nat} {Q : Option Value → GA → Nat → Prop} (hV : MsW sh S) (hs : -2147483648 ≤ s ∧ s ≤ 2147483647) (hso : -2147483648 ≤ sort ∧ sort ≤ 2147483647) (hn : -2147483648 ≤ nn ∧ nn ≤ 2147483647)
    (h0 : ¬ ((0 ≤ s ∧ s < 4) ∧ (-1 ≤ sort ∧ sort ≤ 2) ∧ (sort < 0 ∨ nn ≤ 40)) → Q (some (.int (iI (-2)))) (hp g sh S) n) (h1 : (0 ≤ s ∧ s < 4) → (0 ≤ sort ∧ sort ≤ 2) → nn < 0 → Q (some (.int (iI (-14)))) (hp g sh S) n)
    (h2 : (0 ≤ s ∧ s < 4) → (0 ≤ sort ∧ sort ≤ 2) → (0 ≤ nn ∧ nn ≤ 40) → Q (some (.int (iI 1))) (hp g sh (putA (setA (setA (setA S 109 s 1) 110 s sort) 111 s nn) 112 (zfl (S.2.1 112) (40 * s) nn))) n)
    (h3 : (0 ≤ s ∧ s < 4) → sort = -1 → Q (some (.int (iI 1))) (hp g sh (setA (setA (setA S 109 s 0) 110 s sort) 111 s nn)) n) :
    GCall g mX10_sheet 3 0 0 [gr g 96, .int (iI s), .int (iI sort), .int (iI nn)] (hp g sh S) n Q := by
  obtain ⟨h96, q35, q36, q37, q38, h109, h110, h111, h112, r109, r110, r111, r11, r112⟩ := hV
  have hgo : (0 ≤ s ∧ s < 4) → (0 ≤ sort ∧ sort ≤ 2) → (0 ≤ nn ∧ nn ≤ 40) → G g mX10_sheet 3 0 0 72 [(4, .int (iI 0)), (0, gr g 96), (1, .int (iI s)), (2, .int (iI sort)), (3, .int (iI nn))] [] (hp g sh (setA (setA (setA S 109 s 1) 110 s sort) 111 s nn)) n 0 0 Q := by
    intro a1 a2 a3
    have e : (setA (setA (setA S 109 s 1) 110 s sort) 111 s nn).2.1 112 = S.2.1 112 := rfl
    have := l_X10_sheet (g := g) (s := s) (sort := sort) (nn := nn) (sh := sh) (S := setA (setA (setA S 109 s 1) 110 s sort) 111 s nn) (n := n) (Q := Q) h96 q38 h112 a1 a2 a3 (by rw [e]; exact h2 a1 a2 a3) nn.toNat 0 (by omega) (by omega)
    rw [zfl_0, putA_same] at this
    exact this
  refine GCall.of (by decide) (Nat.le_of_ble_eq_true rfl) (ls := [(0, _), (1, _), (2, _), (3, _)]) rfl ?_
  by_cases hneg : sort < 0
  · have hgo2 : (0 ≤ s ∧ s < 4) → sort = -1 → G g mX10_sheet 3 0 0 72 [(4, .int (iI 0)), (0, gr g 96), (1, .int (iI s)), (2, .int (iI sort)), (3, .int (iI nn))] [] (hp g sh (setA (setA (setA S 109 s 0) 110 s sort) 111 s nn)) n 0 0 Q := by
      intro a1 a2
      by_cases h0n : nn ≤ 0
      · skip
        refine G_iload (pc := 72) dX10_sheet_72 rfl ?_
        refine G_iload_n (pc := 74) dX10_sheet_74 rfl ?_
        refine G_icmp_ge_t (pc := 75) 101 dX10_sheet_75 rfl (by omega) (by omega) ?_
        refine G_iconst (pc := 101) dX10_sheet_101 ?_
        refine G_iret (pc := 102) dX10_sheet_102 rfl (by decide) ?_
        exact h3 a1 a2
      · skip
        refine G_iload (pc := 72) dX10_sheet_72 rfl ?_
        refine G_iload_n (pc := 74) dX10_sheet_74 rfl ?_
        refine G_icmp_ge_f (pc := 75) 101 dX10_sheet_75 rfl (by omega) (by omega) ?_
        refine G_iload_n (pc := 78) dX10_sheet_78 rfl ?_
        refine G_if_lt_t (pc := 79) 101 dX10_sheet_79 rfl (by omega) (by omega) ?_
        refine G_iconst (pc := 101) dX10_sheet_101 ?_
        refine G_iret (pc := 102) dX10_sheet_102 rfl (by decide) ?_
        exact h3 a1 a2
    refine G_iload_n (pc := 0) dX10_sheet_0 rfl ?_
    refine G_callS (pc := 1) (d2 := 2) (mc2 := 0) (ms2 := 0) (As := [_]) dX10_sheet_1 kX10_isSheet lkX10_302 rfl rfl (Nat.le_of_ble_eq_true rfl) ⟨by decide, by decide⟩ (by decide) ?_
    refine c_X10_isSheet (by omega) (fun w1 => ?_) (fun w1 => ?_)
    · show G _ _ _ _ _ _ _ _ _ _ _ _ _
      refine G_if_eq_f (pc := 4) 26 dX10_sheet_4 rfl (by decide) (by decide) ?_
      refine G_iload_n (pc := 7) dX10_sheet_7 rfl ?_
      refine G_iconst (pc := 8) dX10_sheet_8 ?_
      refine G_iconst (pc := 9) dX10_sheet_9 ?_
      refine G_callS (pc := 10) (d2 := 1) (mc2 := 0) (ms2 := 0) (As := [_, _, _]) dX10_sheet_10 kX10_in lkX10_86 rfl rfl (Nat.le_of_ble_eq_true rfl) ⟨by decide, by decide⟩ (by decide) ?_
      refine c_X10_in (by omega) (fun w10 => ?_) (fun w10 => ?_)
      · show G _ _ _ _ _ _ _ _ _ _ _ _ _
        refine G_if_eq_f (pc := 13) 26 dX10_sheet_13 rfl (by decide) (by decide) ?_
        refine G_iload_n (pc := 16) dX10_sheet_16 rfl ?_
        refine G_if_lt_t (pc := 17) 29 dX10_sheet_17 rfl (by omega) (by omega) ?_
        refine G_iload_n (pc := 29) dX10_sheet_29 rfl ?_
        refine G_if_lt_t (pc := 30) 40 dX10_sheet_30 rfl (by omega) (by omega) ?_
        refine S_aload_n (pc := 40) dX10_sheet_40 rfl ?_
        refine S_getR (pc := 41) dX10_sheet_41 fX10_51 (by assumption) rfl (by assumption) ?_
        refine G_iload_n (pc := 44) dX10_sheet_44 rfl ?_
        refine G_iload_n (pc := 45) dX10_sheet_45 rfl ?_
        refine G_if_lt_t (pc := 46) 53 dX10_sheet_46 rfl (by omega) (by omega) ?_
        refine G_iconst (pc := 53) dX10_sheet_53 ?_
        refine S_zast (pc := 54) dX10_sheet_54 (by assumption) (by omega) (show vp_nar .boolean (iI 0) = iI 0 from rfl) ?_
        refine S_aload_n (pc := 55) dX10_sheet_55 rfl ?_
        refine S_getR (pc := 56) dX10_sheet_56 fX10_55 (by assumption) rfl (by assumption) ?_
        refine G_iload_n (pc := 59) dX10_sheet_59 rfl ?_
        refine G_iload_n (pc := 60) dX10_sheet_60 rfl ?_
        refine S_iast (pc := 61) dX10_sheet_61 (by assumption) (by omega) ?_
        refine S_aload_n (pc := 62) dX10_sheet_62 rfl ?_
        refine S_getR (pc := 63) dX10_sheet_63 fX10_58 (by assumption) rfl (by assumption) ?_
        refine G_iload_n (pc := 66) dX10_sheet_66 rfl ?_
        refine G_iload_n (pc := 67) dX10_sheet_67 rfl ?_
        refine S_iast (pc := 68) dX10_sheet_68 (by assumption) (by omega) ?_
        refine G_iconst (pc := 69) dX10_sheet_69 ?_
        refine G_istore (pc := 70) (ls' := [(4, _), (0, _), (1, _), (2, _), (3, _)]) dX10_sheet_70 (by decide) rfl ?_
        exact hgo2 (by omega) (by omega)
      · show G _ _ _ _ _ _ _ _ _ _ _ _ _
        refine G_if_eq_t (pc := 13) 26 dX10_sheet_13 rfl (by decide) (by decide) ?_
        refine G_bipush (pc := 26) dX10_sheet_26 rfl ?_
        refine G_iret (pc := 28) dX10_sheet_28 rfl (by decide) ?_
        exact h0 (by omega)
    · show G _ _ _ _ _ _ _ _ _ _ _ _ _
      refine G_if_eq_t (pc := 4) 26 dX10_sheet_4 rfl (by decide) (by decide) ?_
      refine G_bipush (pc := 26) dX10_sheet_26 rfl ?_
      refine G_iret (pc := 28) dX10_sheet_28 rfl (by decide) ?_
      exact h0 (by omega)
  · skip
    refine G_iload_n (pc := 0) dX10_sheet_0 rfl ?_
    refine G_callS (pc := 1) (d2 := 2) (mc2 := 0) (ms2 := 0) (As := [_]) dX10_sheet_1 kX10_isSheet lkX10_302 rfl rfl (Nat.le_of_ble_eq_true rfl) ⟨by decide, by decide⟩ (by decide) ?_
    refine c_X10_isSheet (by omega) (fun w1 => ?_) (fun w1 => ?_)
    · show G _ _ _ _ _ _ _ _ _ _ _ _ _
      refine G_if_eq_f (pc := 4) 26 dX10_sheet_4 rfl (by decide) (by decide) ?_
      refine G_iload_n (pc := 7) dX10_sheet_7 rfl ?_
      refine G_iconst (pc := 8) dX10_sheet_8 ?_
      refine G_iconst (pc := 9) dX10_sheet_9 ?_
      refine G_callS (pc := 10) (d2 := 1) (mc2 := 0) (ms2 := 0) (As := [_, _, _]) dX10_sheet_10 kX10_in lkX10_86 rfl rfl (Nat.le_of_ble_eq_true rfl) ⟨by decide, by decide⟩ (by decide) ?_
      refine c_X10_in (by omega) (fun w10 => ?_) (fun w10 => ?_)
      · show G _ _ _ _ _ _ _ _ _ _ _ _ _
        refine G_if_eq_f (pc := 13) 26 dX10_sheet_13 rfl (by decide) (by decide) ?_
        refine G_iload_n (pc := 16) dX10_sheet_16 rfl ?_
        refine G_if_lt_f (pc := 17) 29 dX10_sheet_17 rfl (by omega) (by omega) ?_
        refine G_iload_n (pc := 20) dX10_sheet_20 rfl ?_
        refine G_bipush (pc := 21) dX10_sheet_21 rfl ?_
        refine G_icmp_le (pc := 23) 29 dX10_sheet_23 rfl (by omega) (fun c23 => ?_) (fun c23 => ?_)
        · skip
          refine G_iload_n (pc := 29) dX10_sheet_29 rfl ?_
          refine G_if_lt_f (pc := 30) 40 dX10_sheet_30 rfl (by omega) (by omega) ?_
          refine G_iload_n (pc := 33) dX10_sheet_33 rfl ?_
          refine G_if_ge (pc := 34) 40 dX10_sheet_34 rfl (by omega) (fun c34 => ?_) (fun c34 => ?_)
          · skip
            refine S_aload_n (pc := 40) dX10_sheet_40 rfl ?_
            refine S_getR (pc := 41) dX10_sheet_41 fX10_51 (by assumption) rfl (by assumption) ?_
            refine G_iload_n (pc := 44) dX10_sheet_44 rfl ?_
            refine G_iload_n (pc := 45) dX10_sheet_45 rfl ?_
            refine G_if_lt_f (pc := 46) 53 dX10_sheet_46 rfl (by omega) (by omega) ?_
            refine G_iconst (pc := 49) dX10_sheet_49 ?_
            refine G_goto (pc := 50) 54 dX10_sheet_50 rfl ?_
            refine S_zast (pc := 54) dX10_sheet_54 (by assumption) (by omega) (show vp_nar .boolean (iI 1) = iI 1 from rfl) ?_
            refine S_aload_n (pc := 55) dX10_sheet_55 rfl ?_
            refine S_getR (pc := 56) dX10_sheet_56 fX10_55 (by assumption) rfl (by assumption) ?_
            refine G_iload_n (pc := 59) dX10_sheet_59 rfl ?_
            refine G_iload_n (pc := 60) dX10_sheet_60 rfl ?_
            refine S_iast (pc := 61) dX10_sheet_61 (by assumption) (by omega) ?_
            refine S_aload_n (pc := 62) dX10_sheet_62 rfl ?_
            refine S_getR (pc := 63) dX10_sheet_63 fX10_58 (by assumption) rfl (by assumption) ?_
            refine G_iload_n (pc := 66) dX10_sheet_66 rfl ?_
            refine G_iload_n (pc := 67) dX10_sheet_67 rfl ?_
            refine S_iast (pc := 68) dX10_sheet_68 (by assumption) (by omega) ?_
            refine G_iconst (pc := 69) dX10_sheet_69 ?_
            refine G_istore (pc := 70) (ls' := [(4, _), (0, _), (1, _), (2, _), (3, _)]) dX10_sheet_70 (by decide) rfl ?_
            exact hgo (by omega) (by omega) (by omega)
          · skip
            refine G_bipush (pc := 37) dX10_sheet_37 rfl ?_
            refine G_iret (pc := 39) dX10_sheet_39 rfl (by decide) ?_
            exact h1 (by omega) (by omega) (by omega)
        · skip
          refine G_bipush (pc := 26) dX10_sheet_26 rfl ?_
          refine G_iret (pc := 28) dX10_sheet_28 rfl (by decide) ?_
          exact h0 (by omega)
      · show G _ _ _ _ _ _ _ _ _ _ _ _ _
        refine G_if_eq_t (pc := 13) 26 dX10_sheet_13 rfl (by decide) (by decide) ?_
        refine G_bipush (pc := 26) dX10_sheet_26 rfl ?_
        refine G_iret (pc := 28) dX10_sheet_28 rfl (by decide) ?_
        exact h0 (by omega)
    · show G _ _ _ _ _ _ _ _ _ _ _ _ _
      refine G_if_eq_t (pc := 4) 26 dX10_sheet_4 rfl (by decide) (by decide) ?_
      refine G_bipush (pc := 26) dX10_sheet_26 rfl ?_
      refine G_iret (pc := 28) dX10_sheet_28 rfl (by decide) ?_
      exact h0 (by omega)
