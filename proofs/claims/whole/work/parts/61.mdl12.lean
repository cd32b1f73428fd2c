/-! the Model: cell, sheet -/
def b8 (z : Int) : Int := (z + 128) % 256 - 128
def b16 (z : Int) : Int := (z + 32768) % 65536 - 32768
theorem nb8 {z : Int} : (iI z).toInt8.toInt32 = iI (b8 z) := by
  apply Int32.toInt_inj.mp
  unfold iI b8
  rw [Int8.toInt_toInt32, Int32.toInt8_ofInt, Int8.toInt_ofInt, Int32.toInt_ofInt]
  simp only [Int.bmod_def]
  simp
  omega
theorem nb16 {z : Int} : (iI z).toInt16.toInt32 = iI (b16 z) := by
  apply Int32.toInt_inj.mp
  unfold iI b16
  rw [Int16.toInt_toInt32, Int32.toInt16_ofInt, Int16.toInt_ofInt, Int32.toInt_ofInt]
  simp only [Int.bmod_def]
  simp
  omega
def MsW (sh : SH) (S : SS) : Prop := sh 96 = some (.inl 10) ∧ S.2.2 96 35 = some 109 ∧ S.2.2 96 36 = some 110 ∧ S.2.2 96 37 = some 111 ∧ S.2.2 96 38 = some 112 ∧ sh 109 = some (.inr (3, 4)) ∧ sh 110 = some (.inr (1, 4)) ∧ sh 111 = some (.inr (1, 4)) ∧ sh 112 = some (.inr (1, 160)) ∧ (∀ i : Int, 0 ≤ S.2.1 109 i ∧ S.2.1 109 i ≤ 1) ∧ (∀ i : Int, -1 ≤ S.2.1 110 i ∧ S.2.1 110 i ≤ 2) ∧ (∀ i : Int, -2147483648 ≤ S.2.1 111 i ∧ S.2.1 111 i ≤ 2147483647) ∧ (∀ i : Int, S.2.1 109 i = 1 → 0 ≤ S.2.1 111 i ∧ S.2.1 111 i ≤ 40) ∧ (∀ i : Int, -2147483648 ≤ S.2.1 112 i ∧ S.2.1 112 i ≤ 2147483647)
def cut_ (sort v : Int) : Int := if sort = 0 then b8 v else if sort = 1 then b16 v else v
set_option maxRecDepth 100000 in
set_option maxHeartbeats 4000000 in
theorem c_X10_cell {g : GC} {s i v : Int} {sh : SH} {S : SS} {n : Nat} {Q : Option Value → GA → Nat → Prop} (hV : MsW sh S) (hs : -2147483648 ≤ s ∧ s ≤ 2147483647) (hi : -2147483648 ≤ i ∧ i ≤ 2147483647) (hv : -2147483648 ≤ v ∧ v ≤ 2147483647)
    (h0 : ¬ (0 ≤ s ∧ s < 4) → Q (some (.int (iI (-2)))) (hp g sh S) n) (h1 : (0 ≤ s ∧ s < 4) → S.2.1 109 s = 0 → Q (some (.int (iI (-11)))) (hp g sh S) n) (h2 : (0 ≤ s ∧ s < 4) → S.2.1 109 s = 1 → ¬ (0 ≤ i ∧ i < S.2.1 111 s) → Q (some (.int (iI (-12)))) (hp g sh S) n)
    (h3 : (0 ≤ s ∧ s < 4) → S.2.1 109 s = 1 → (0 ≤ i ∧ i < S.2.1 111 s) → Q (some (.int (iI 1))) (hp g sh (setA S 112 (40 * s + i) (cut_ (S.2.1 110 s) v))) n) :
    GCall g mX10_cell 3 0 0 [gr g 96, .int (iI s), .int (iI i), .int (iI v)] (hp g sh S) n Q := by
  obtain ⟨h96, q35, q36, q37, q38, h109, h110, h111, h112, r109, r110, r111, r11, r112⟩ := hV
  refine GCall.of (by decide) (Nat.le_of_ble_eq_true rfl) (ls := [(0, _), (1, _), (2, _), (3, _)]) rfl ?_
  have ht := r109 s
  have ho := r110 s
  have hz := r111 s
  have hzz := r11 s
  have hb : -128 ≤ b8 v ∧ b8 v ≤ 127 := by unfold b8; omega
  have hb2 : -32768 ≤ b16 v ∧ b16 v ≤ 32767 := by unfold b16; omega
  refine G_iload_n (pc := 0) dX10_cell_0 rfl ?_
  refine G_callS (pc := 1) (d2 := 2) (mc2 := 0) (ms2 := 0) (As := [_]) dX10_cell_1 kX10_isSheet lkX10_302 rfl rfl (Nat.le_of_ble_eq_true rfl) ⟨by decide, by decide⟩ (by decide) ?_
  refine c_X10_isSheet (by omega) (fun w1 => ?_) (fun w1 => ?_)
  · show G _ _ _ _ _ _ _ _ _ _ _ _ _
    refine G_if_ne_t (pc := 4) 10 dX10_cell_4 rfl (by decide) (by decide) ?_
    refine S_aload_n (pc := 10) dX10_cell_10 rfl ?_
    refine S_getR (pc := 11) dX10_cell_11 fX10_51 (by assumption) rfl (by assumption) ?_
    refine G_iload_n (pc := 14) dX10_cell_14 rfl ?_
    refine S_zald (pc := 15) dX10_cell_15 (by assumption) (by omega) ?_
    refine G_if_ne (pc := 16) 22 dX10_cell_16 rfl (by omega) (fun c16 => ?_) (fun c16 => ?_)
    · skip
      refine G_iload_n (pc := 22) dX10_cell_22 rfl ?_
      refine G_iconst (pc := 23) dX10_cell_23 ?_
      refine S_aload_n (pc := 24) dX10_cell_24 rfl ?_
      refine S_getR (pc := 25) dX10_cell_25 fX10_58 (by assumption) rfl (by assumption) ?_
      refine G_iload_n (pc := 28) dX10_cell_28 rfl ?_
      refine S_iald (pc := 29) dX10_cell_29 (by assumption) (by omega) ?_
      have hzs := hzz (by omega)
      refine G_iconst (pc := 30) dX10_cell_30 ?_
      refine G_isub (pc := 31) dX10_cell_31 ?_
      refine G_callS (pc := 32) (d2 := 1) (mc2 := 0) (ms2 := 0) (As := [_, _, _]) dX10_cell_32 kX10_in lkX10_86 rfl rfl (Nat.le_of_ble_eq_true rfl) ⟨by decide, by decide⟩ (by decide) ?_
      refine c_X10_in (by omega) (fun w32 => ?_) (fun w32 => ?_)
      · show G _ _ _ _ _ _ _ _ _ _ _ _ _
        refine G_if_ne_t (pc := 35) 41 dX10_cell_35 rfl (by decide) (by decide) ?_
        refine S_aload_n (pc := 41) dX10_cell_41 rfl ?_
        refine S_getR (pc := 42) dX10_cell_42 fX10_61 (by assumption) rfl (by assumption) ?_
        refine G_bipush (pc := 45) dX10_cell_45 rfl ?_
        refine G_iload_n (pc := 47) dX10_cell_47 rfl ?_
        refine G_imul (pc := 48) dX10_cell_48 ?_
        refine G_iload_n (pc := 49) dX10_cell_49 rfl ?_
        refine G_iadd (pc := 50) dX10_cell_50 ?_
        refine S_aload_n (pc := 51) dX10_cell_51 rfl ?_
        refine S_getR (pc := 52) dX10_cell_52 fX10_55 (by assumption) rfl (by assumption) ?_
        refine G_iload_n (pc := 55) dX10_cell_55 rfl ?_
        refine S_iald (pc := 56) dX10_cell_56 (by assumption) (by omega) ?_
        refine G_if_ne (pc := 57) 65 dX10_cell_57 rfl (by omega) (fun c57 => ?_) (fun c57 => ?_)
        · skip
          refine S_aload_n (pc := 65) dX10_cell_65 rfl ?_
          refine S_getR (pc := 66) dX10_cell_66 fX10_55 (by assumption) rfl (by assumption) ?_
          refine G_iload_n (pc := 69) dX10_cell_69 rfl ?_
          refine S_iald (pc := 70) dX10_cell_70 (by assumption) (by omega) ?_
          refine G_iconst (pc := 71) dX10_cell_71 ?_
          refine G_icmp_ne (pc := 72) 80 dX10_cell_72 rfl (by omega) (fun c72 => ?_) (fun c72 => ?_)
          · skip
            refine G_iload_n (pc := 80) dX10_cell_80 rfl ?_
            refine S_iast (pc := 81) dX10_cell_81 (by assumption) (by omega) ?_
            refine G_iconst (pc := 82) dX10_cell_82 ?_
            refine G_iret (pc := 83) dX10_cell_83 rfl (by decide) ?_
            have := h3 (by omega) (by omega) (by omega)
            unfold cut_ at this
            first
              | (rw [if_pos (by omega)] at this; exact this)
              | (rw [if_neg (by omega), if_pos (by omega)] at this; exact this)
              | (rw [if_neg (by omega), if_neg (by omega)] at this; exact this)
          · skip
            refine G_iload_n (pc := 75) dX10_cell_75 rfl ?_
            refine G_i2s (pc := 76) dX10_cell_76 nb16 ?_
            refine G_goto (pc := 77) 81 dX10_cell_77 rfl ?_
            refine S_iast (pc := 81) dX10_cell_81 (by assumption) (by omega) ?_
            refine G_iconst (pc := 82) dX10_cell_82 ?_
            refine G_iret (pc := 83) dX10_cell_83 rfl (by decide) ?_
            have := h3 (by omega) (by omega) (by omega)
            unfold cut_ at this
            first
              | (rw [if_pos (by omega)] at this; exact this)
              | (rw [if_neg (by omega), if_pos (by omega)] at this; exact this)
              | (rw [if_neg (by omega), if_neg (by omega)] at this; exact this)
        · skip
          refine G_iload_n (pc := 60) dX10_cell_60 rfl ?_
          refine G_i2b (pc := 61) dX10_cell_61 nb8 ?_
          refine G_goto (pc := 62) 81 dX10_cell_62 rfl ?_
          refine S_iast (pc := 81) dX10_cell_81 (by assumption) (by omega) ?_
          refine G_iconst (pc := 82) dX10_cell_82 ?_
          refine G_iret (pc := 83) dX10_cell_83 rfl (by decide) ?_
          have := h3 (by omega) (by omega) (by omega)
          unfold cut_ at this
          first
            | (rw [if_pos (by omega)] at this; exact this)
            | (rw [if_neg (by omega), if_pos (by omega)] at this; exact this)
            | (rw [if_neg (by omega), if_neg (by omega)] at this; exact this)
      · show G _ _ _ _ _ _ _ _ _ _ _ _ _
        refine G_if_ne_f (pc := 35) 41 dX10_cell_35 rfl (by decide) (by decide) ?_
        refine G_bipush (pc := 38) dX10_cell_38 rfl ?_
        refine G_iret (pc := 40) dX10_cell_40 rfl (by decide) ?_
        exact h2 (by omega) (by omega) (by omega)
    · skip
      refine G_bipush (pc := 19) dX10_cell_19 rfl ?_
      refine G_iret (pc := 21) dX10_cell_21 rfl (by decide) ?_
      exact h1 (by omega) (by omega)
  · show G _ _ _ _ _ _ _ _ _ _ _ _ _
    refine G_if_ne_f (pc := 4) 10 dX10_cell_4 rfl (by decide) (by decide) ?_
    refine G_bipush (pc := 7) dX10_cell_7 rfl ?_
    refine G_iret (pc := 9) dX10_cell_9 rfl (by decide) ?_
    exact h0 (by omega)
