/-! Sheet -/
def ShW (sh : SH) (S : SS) (s : Nat) : Prop := sh s = some (.inl 5) ∧ sh (s + 1) = some (.inr (1, 40)) ∧ S.2.2 s 2 = some (s + 1) ∧ (-1 ≤ S.1 s 0 ∧ S.1 s 0 ≤ 2) ∧ (0 ≤ S.1 s 1 ∧ S.1 s 1 ≤ 40) ∧ Sup (S.2.1 (s + 1)) 40
set_option maxRecDepth 100000 in
set_option maxHeartbeats 4000000 in
theorem c_X5_sort {g : GC} {sh : SH} {S : SS} {n s : Nat} {Q : Option Value → GA → Nat → Prop} (hW : ShW sh S s) (hq : Q (some (.int (iI (S.1 s 0)))) (hp g sh S) n) : GCall g mX5_sort 1 0 0 [gr g s] (hp g sh S) n Q := by
  obtain ⟨h5, ha, q2, hso, hsz, hsu⟩ := hW
  refine GCall.of (by decide) (Nat.le_of_ble_eq_true rfl) (ls := [(0, _)]) rfl ?_
  refine S_aload_n (pc := 0) dX5_sort_0 rfl ?_
  refine S_getI (pc := 1) dX5_sort_1 fX5_11 (by assumption) rfl ?_
  refine G_iret (pc := 4) dX5_sort_4 rfl (by decide) ?_
  exact hq
set_option maxRecDepth 100000 in
set_option maxHeartbeats 4000000 in
theorem c_X5_size {g : GC} {sh : SH} {S : SS} {n s : Nat} {Q : Option Value → GA → Nat → Prop} (hW : ShW sh S s) (hq : Q (some (.int (iI (S.1 s 1)))) (hp g sh S) n) : GCall g mX5_size 1 0 0 [gr g s] (hp g sh S) n Q := by
  obtain ⟨h5, ha, q2, hso, hsz, hsu⟩ := hW
  refine GCall.of (by decide) (Nat.le_of_ble_eq_true rfl) (ls := [(0, _)]) rfl ?_
  refine S_aload_n (pc := 0) dX5_size_0 rfl ?_
  refine S_getI (pc := 1) dX5_size_1 fX5_19 (by assumption) rfl ?_
  refine G_iret (pc := 4) dX5_size_4 rfl (by decide) ?_
  exact hq
set_option maxRecDepth 100000 in
set_option maxHeartbeats 4000000 in
theorem l_X5_begin {g : GC} {sh : SH} {S : SS} {n s : Nat} {v1 v2 : Int} {Q : Option Value → GA → Nat → Prop} (h5 : sh s = some (.inl 5)) (ha : sh (s + 1) = some (.inr (1, 40))) (q2 : S.2.2 s 2 = some (s + 1)) (hsu : Sup (S.2.1 (s + 1)) 40) (hq : Q none (hp g sh (putA S (s + 1) pz)) n) : ∀ (k : Nat) (i : Int), i + k = 40 → 0 ≤ i → G g mX5_begin 2 0 0 17 [(3, .int (iI i)), (0, gr g s), (1, .int (iI v1)), (2, .int (iI v2))] [] (hp g sh (putA S (s + 1) (mix pz (S.2.1 (s + 1)) i))) n 0 0 Q := by
  intro k
  induction k with
  | zero =>
    intro i hi h0
    refine G_iload_n (pc := 17) dX5_begin_17 rfl ?_
    refine G_bipush (pc := 18) dX5_begin_18 rfl ?_
    refine G_icmp_ge_t (pc := 20) 36 dX5_begin_20 rfl (by omega) (by omega) ?_
    refine G_vret (pc := 36) dX5_begin_36 rfl (by decide) ?_
    refine Q_S ?_ hq
    rw [show i = (40 : Nat) by omega, mix_N hsu, clip_id Sup_pz]
  | succ k ih =>
    intro i hi h0
    have hn := ih (i + 1) (by omega) (by omega)
    rw [← mix_S h0] at hn
    refine G_iload_n (pc := 17) dX5_begin_17 rfl ?_
    refine G_bipush (pc := 18) dX5_begin_18 rfl ?_
    refine G_icmp_ge_f (pc := 20) 36 dX5_begin_20 rfl (by omega) (by omega) ?_
    refine S_aload_n (pc := 23) dX5_begin_23 rfl ?_
    refine S_getR (pc := 24) dX5_begin_24 fX5_15 (by assumption) rfl (by assumption) ?_
    refine G_iload_n (pc := 27) dX5_begin_27 rfl ?_
    refine G_iconst (pc := 28) dX5_begin_28 ?_
    refine S_iast (pc := 29) dX5_begin_29 (by assumption) (by omega) ?_
    refine G_iinc (pc := 30) (ls' := [(3, _), (0, _), (1, _), (2, _)]) dX5_begin_30 rfl (by decide) rfl ?_
    refine G_goto (pc := 33) 17 dX5_begin_33 rfl ?_
    rw [setA_putA]
    exact hn
set_option maxRecDepth 100000 in
set_option maxHeartbeats 4000000 in
theorem c_X5_begin {g : GC} {sh : SH} {S : SS} {n s : Nat} {so m : Int} {Q : Option Value → GA → Nat → Prop} (hW : ShW sh S s) (hm : 0 ≤ m ∧ m ≤ 40) (hq : Q none (hp g sh (putA (setF (setF S s 0 so) s 1 m) (s + 1) pz)) n) : GCall g mX5_begin 2 0 0 [gr g s, .int (iI so), .int (iI m)] (hp g sh S) n Q := by
  obtain ⟨h5, ha, q2, hso, hsz, hsu⟩ := hW
  refine GCall.of (by decide) (Nat.le_of_ble_eq_true rfl) (ls := [(0, _), (1, _), (2, _)]) rfl ?_
  refine S_aload_n (pc := 0) dX5_begin_0 rfl ?_
  refine G_iload_n (pc := 1) dX5_begin_1 rfl ?_
  refine S_putI (pc := 2) dX5_begin_2 fX5_11 (by assumption) rfl ⟨rfl, rfl⟩ ?_
  refine S_aload_n (pc := 5) dX5_begin_5 rfl ?_
  refine G_iload_n (pc := 6) dX5_begin_6 rfl ?_
  refine G_bipush (pc := 7) dX5_begin_7 rfl ?_
  refine G_callS (pc := 9) (d2 := 1) (mc2 := 0) (ms2 := 0) (As := [_, _]) dX5_begin_9 kJ9_min_7cf53 lkX5_22 rfl rfl (Nat.le_of_ble_eq_true rfl) ⟨by decide, by decide⟩ (by decide) ?_
  refine c_J9_min (by omega) ?_
  rw [if_pos (show m ≤ 40 by omega)]
  show G _ _ _ _ _ _ _ _ _ _ _ _ _
  refine S_putI (pc := 12) dX5_begin_12 fX5_19 (by assumption) rfl ⟨rfl, rfl⟩ ?_
  refine G_iconst (pc := 15) dX5_begin_15 ?_
  refine G_istore_n (pc := 16) (ls' := [(3, _), (0, _), (1, _), (2, _)]) dX5_begin_16 (by decide) rfl ?_
  have := l_X5_begin (S := setF (setF S s 0 so) s 1 m) (v1 := so) (v2 := m) h5 ha q2 hsu hq 40 0 (by omega) (Int.le_refl _)
  rw [mix_0, putA_same] at this
  exact this
set_option maxRecDepth 100000 in
set_option maxHeartbeats 4000000 in
theorem c_X5_read {g : GC} {sh : SH} {S : SS} {n s : Nat} {i : Int} {Q : Option Value → GA → Nat → Prop} (hW : ShW sh S s) (hi : 0 ≤ i ∧ i < S.1 s 1) (hq : Q (some (.int (iI (S.2.1 (s + 1) i)))) (hp g sh S) n) : GCall g mX5_read 2 0 0 [gr g s, .int (iI i)] (hp g sh S) n Q := by
  obtain ⟨h5, ha, q2, hso, hsz, hsu⟩ := hW
  refine GCall.of (by decide) (Nat.le_of_ble_eq_true rfl) (ls := [(0, _), (1, _)]) rfl ?_
  refine G_iload_n (pc := 0) dX5_read_0 rfl ?_
  refine S_aload_n (pc := 1) dX5_read_1 rfl ?_
  refine S_getI (pc := 2) dX5_read_2 fX5_19 (by assumption) rfl ?_
  refine G_callSN (pc := 5) (d2 := 1) (mc2 := 0) (ms2 := 0) (As := [_, _]) dX5_read_5 kX9_isWithin lkX5_28 rfl rfl (Nat.le_of_ble_eq_true rfl) ⟨by decide, by decide⟩ (by decide) ?_
  refine c_X9_isWithin (by omega) (fun _ => ?_) (fun z => absurd hi z)
  · show G _ _ _ _ _ _ _ _ _ _ _ _ _
    refine G_if_eq_f (pc := 8) 29 dX5_read_8 rfl (by decide) (by decide) ?_
    refine G_iload_n (pc := 11) dX5_read_11 rfl ?_
    refine S_aload_n (pc := 12) dX5_read_12 rfl ?_
    refine S_getR (pc := 13) dX5_read_13 fX5_15 (by assumption) rfl (by assumption) ?_
    refine S_alen (pc := 16) dX5_read_16 (Or.inl (by assumption)) ?_
    refine G_icmp_ge_f (pc := 17) 29 dX5_read_17 rfl (by omega) (by omega) ?_
    refine S_aload_n (pc := 20) dX5_read_20 rfl ?_
    refine S_getR (pc := 21) dX5_read_21 fX5_15 (by assumption) rfl (by assumption) ?_
    refine G_iload_n (pc := 24) dX5_read_24 rfl ?_
    refine S_iald (pc := 25) dX5_read_25 (by assumption) (by omega) ?_
    refine G_goto (pc := 26) 30 dX5_read_26 rfl ?_
    refine G_iret (pc := 30) dX5_read_30 rfl (by decide) ?_
    exact hq
set_option maxRecDepth 100000 in
set_option maxHeartbeats 4000000 in
theorem c_X5_write {g : GC} {sh : SH} {S : SS} {n s : Nat} {i v : Int} {Q : Option Value → GA → Nat → Prop} (hW : ShW sh S s) (hi : 0 ≤ i ∧ i < S.1 s 1) (hv : -2147483648 ≤ v ∧ v ≤ 2147483647) (hq : Q none (hp g sh (setA S (s + 1) i (cut_ (S.1 s 0) v))) n) : GCall g mX5_write 2 0 0 [gr g s, .int (iI i), .int (iI v)] (hp g sh S) n Q := by
  obtain ⟨h5, ha, q2, hso, hsz, hsu⟩ := hW
  refine GCall.of (by decide) (Nat.le_of_ble_eq_true rfl) (ls := [(0, _), (1, _), (2, _)]) rfl ?_
  by_cases c0 : S.1 s 0 = 0
  · have hq0 := hq
    unfold cut_ at hq0
    rw [if_pos c0] at hq0
    refine G_iload_n (pc := 0) dX5_write_0 rfl ?_
    refine S_aload_n (pc := 1) dX5_write_1 rfl ?_
    refine S_getI (pc := 2) dX5_write_2 fX5_19 (by assumption) rfl ?_
    refine G_callSN (pc := 5) (d2 := 1) (mc2 := 0) (ms2 := 0) (As := [_, _]) dX5_write_5 kX9_isWithin lkX5_28 rfl rfl (Nat.le_of_ble_eq_true rfl) ⟨by decide, by decide⟩ (by decide) ?_
    refine c_X9_isWithin (by omega) (fun _ => ?_) (fun z => absurd hi z)
    · show G _ _ _ _ _ _ _ _ _ _ _ _ _
      refine G_if_eq_f (pc := 8) 20 dX5_write_8 rfl (by decide) (by decide) ?_
      refine G_iload_n (pc := 11) dX5_write_11 rfl ?_
      refine S_aload_n (pc := 12) dX5_write_12 rfl ?_
      refine S_getR (pc := 13) dX5_write_13 fX5_15 (by assumption) rfl (by assumption) ?_
      refine S_alen (pc := 16) dX5_write_16 (Or.inl (by assumption)) ?_
      refine G_icmp_lt_t (pc := 17) 21 dX5_write_17 rfl (by omega) (by omega) ?_
      refine S_aload_n (pc := 21) dX5_write_21 rfl ?_
      refine S_getI (pc := 22) dX5_write_22 fX5_11 (by assumption) rfl ?_
      rw [c0]
      refine G_lsw (pc := 25) (off := 27) 52 dX5_write_25 (by decide) (by decide) (by decide) rfl ?_
      · skip
        skip
        refine S_aload_n (pc := 52) dX5_write_52 rfl ?_
        refine S_getR (pc := 53) dX5_write_53 fX5_15 (by assumption) rfl (by assumption) ?_
        refine G_iload_n (pc := 56) dX5_write_56 rfl ?_
        refine G_iload_n (pc := 57) dX5_write_57 rfl ?_
        refine G_i2b (pc := 58) dX5_write_58 nb8 ?_
        refine S_iast (pc := 59) dX5_write_59 (by assumption) (by omega) ?_
        refine G_goto (pc := 60) 81 dX5_write_60 rfl ?_
        refine G_vret (pc := 81) dX5_write_81 rfl (by decide) ?_
        exact hq0
  · by_cases c1 : S.1 s 0 = 1
    · have hq0 := hq
      unfold cut_ at hq0
      rw [if_neg c0, if_pos c1] at hq0
      refine G_iload_n (pc := 0) dX5_write_0 rfl ?_
      refine S_aload_n (pc := 1) dX5_write_1 rfl ?_
      refine S_getI (pc := 2) dX5_write_2 fX5_19 (by assumption) rfl ?_
      refine G_callSN (pc := 5) (d2 := 1) (mc2 := 0) (ms2 := 0) (As := [_, _]) dX5_write_5 kX9_isWithin lkX5_28 rfl rfl (Nat.le_of_ble_eq_true rfl) ⟨by decide, by decide⟩ (by decide) ?_
      refine c_X9_isWithin (by omega) (fun _ => ?_) (fun z => absurd hi z)
      · show G _ _ _ _ _ _ _ _ _ _ _ _ _
        refine G_if_eq_f (pc := 8) 20 dX5_write_8 rfl (by decide) (by decide) ?_
        refine G_iload_n (pc := 11) dX5_write_11 rfl ?_
        refine S_aload_n (pc := 12) dX5_write_12 rfl ?_
        refine S_getR (pc := 13) dX5_write_13 fX5_15 (by assumption) rfl (by assumption) ?_
        refine S_alen (pc := 16) dX5_write_16 (Or.inl (by assumption)) ?_
        refine G_icmp_lt_t (pc := 17) 21 dX5_write_17 rfl (by omega) (by omega) ?_
        refine S_aload_n (pc := 21) dX5_write_21 rfl ?_
        refine S_getI (pc := 22) dX5_write_22 fX5_11 (by assumption) rfl ?_
        rw [c1]
        refine G_lsw (pc := 25) (off := 38) 63 dX5_write_25 (by decide) (by decide) (by decide) rfl ?_
        · skip
          skip
          refine S_aload_n (pc := 63) dX5_write_63 rfl ?_
          refine S_getR (pc := 64) dX5_write_64 fX5_15 (by assumption) rfl (by assumption) ?_
          refine G_iload_n (pc := 67) dX5_write_67 rfl ?_
          refine G_iload_n (pc := 68) dX5_write_68 rfl ?_
          refine G_i2s (pc := 69) dX5_write_69 nb16 ?_
          refine S_iast (pc := 70) dX5_write_70 (by assumption) (by omega) ?_
          refine G_goto (pc := 71) 81 dX5_write_71 rfl ?_
          refine G_vret (pc := 81) dX5_write_81 rfl (by decide) ?_
          exact hq0
    · have hq0 := hq
      unfold cut_ at hq0
      rw [if_neg c0, if_neg c1] at hq0
      refine G_iload_n (pc := 0) dX5_write_0 rfl ?_
      refine S_aload_n (pc := 1) dX5_write_1 rfl ?_
      refine S_getI (pc := 2) dX5_write_2 fX5_19 (by assumption) rfl ?_
      refine G_callSN (pc := 5) (d2 := 1) (mc2 := 0) (ms2 := 0) (As := [_, _]) dX5_write_5 kX9_isWithin lkX5_28 rfl rfl (Nat.le_of_ble_eq_true rfl) ⟨by decide, by decide⟩ (by decide) ?_
      refine c_X9_isWithin (by omega) (fun _ => ?_) (fun z => absurd hi z)
      · show G _ _ _ _ _ _ _ _ _ _ _ _ _
        refine G_if_eq_f (pc := 8) 20 dX5_write_8 rfl (by decide) (by decide) ?_
        refine G_iload_n (pc := 11) dX5_write_11 rfl ?_
        refine S_aload_n (pc := 12) dX5_write_12 rfl ?_
        refine S_getR (pc := 13) dX5_write_13 fX5_15 (by assumption) rfl (by assumption) ?_
        refine S_alen (pc := 16) dX5_write_16 (Or.inl (by assumption)) ?_
        refine G_icmp_lt_t (pc := 17) 21 dX5_write_17 rfl (by omega) (by omega) ?_
        refine S_aload_n (pc := 21) dX5_write_21 rfl ?_
        refine S_getI (pc := 22) dX5_write_22 fX5_11 (by assumption) rfl ?_
        refine G_lsw (pc := 25) (off := 49) 74 dX5_write_25 (by decide) (by omega) ((if_neg (fun z => c0 z.symm)).trans ((if_neg (fun z => c1 z.symm)).trans rfl)) rfl ?_
        · skip
          skip
          refine S_aload_n (pc := 74) dX5_write_74 rfl ?_
          refine S_getR (pc := 75) dX5_write_75 fX5_15 (by assumption) rfl (by assumption) ?_
          refine G_iload_n (pc := 78) dX5_write_78 rfl ?_
          refine G_iload_n (pc := 79) dX5_write_79 rfl ?_
          refine S_iast (pc := 80) dX5_write_80 (by assumption) (by omega) ?_
          refine G_vret (pc := 81) dX5_write_81 rfl (by decide) ?_
          exact hq0
