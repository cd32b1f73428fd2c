/-! PolyBench: feed, text, lay, fill -/
def ta (i : Int) : Nat := 72 + 4 * i.toNat
def TtR (x : Nat) (S S' : SS) : Prop := (∀ a k : Nat, a ≠ 5 → (a ≠ 43 ∨ k < 2) → (a ≠ x ∨ (k ≠ 1 ∧ k ≠ 3)) → S'.1 a k = S.1 a k) ∧ (∀ a : Nat, a ≠ 7 → a ≠ 8 → a ≠ x + 1 → a ≠ x + 2 → S'.2.1 a = S.2.1 a) ∧ ∀ (a : Nat) (j : Int), (a ≠ 43 ∨ j ≠ 1) → S'.2.2 a j = S.2.2 a j
set_option maxRecDepth 100000 in
set_option maxHeartbeats 4000000 in
theorem c_X9_feed {g : GC} {p N m z : Int} {sh : SH} {S : SS} {n : Nat} {Q : Option Value → GA → Nat → Prop} (hW : PbW p sh S) (hT : TaW sh S N) (hr : -2147483648 ≤ m ∧ m ≤ 2147483647) (hz : -9223372036854775808 ≤ z ∧ z ≤ 9223372036854775807) (h0 : ¬ (1 ≤ m ∧ m ≤ 8) → Q (some (.int (iI (-2)))) (hp g sh S) n) (h1 : (1 ≤ m ∧ m ≤ 8) → 160 < N + m → Q (some (.int (iI (-4)))) (hp g sh S) n)
    (h2 : (1 ≤ m ∧ m ≤ 8) → N + m ≤ 160 → Q (some (.int (iI (N + m)))) (hp g sh (setF (putA S 6 (seg N (N + m) (tcd N z) (S.2.1 6))) 5 1 (N + m))) n) : GCall g mX9_feed 3 0 0 [gr g 0, .int (iI m), .long (iL z)] (hp g sh S) n Q := by
  have hW' := hW
  obtain ⟨hK, hA, hMd, hPo⟩ := hW'
  obtain ⟨k0, q0, q1, q2, q3, q4, q7, q8, q9, q12, q13, q14, s1, s4, s9, s10, s11, f1, f2, f3⟩ := hK
  have hP := hA.1.1
  have hRs := hA.1.2.1
  have hpb := hP.bd
  have h12 := hRs.1
  have h13 := hA.1.2.2.1
  have h2s := hMd.1.1
  have hT' := hT
  obtain ⟨h5, -, -, -, h6, h7, h8, e1, hN, hby⟩ := hT'
  have Kf : (1 ≤ m ∧ m ≤ 8) → N + m ≤ 160 → G g mX9_feed 3 0 0 41 [(0, gr g 0), (1, .int (iI m)), (2, .long (iL z))] [] (hp g sh (setF (putA S 6 (seg N (N + m) (tcd N z) (S.2.1 6))) 5 1 (N + m))) n 0 0 Q := by
    intro z1 z2
    have hq := h2 z1 z2
    have hT2 : TaW sh (setF (putA S 6 (seg N (N + m) (tcd N z) (S.2.1 6))) 5 1 (N + m)) (N + m) := TaW_add hT (by omega) (fun j => b8_bd)
    refine S_aload_n (pc := 41) dX9_feed_41 rfl ?_
    refine S_getR (pc := 42) dX9_feed_42 fX9_31 (by assumption) rfl (by assumption) ?_
    refine S_callV (pc := 45) (ci := 6) (d2 := 1) (mc2 := 0) (ms2 := 0) (As := []) dX9_feed_45 kX6_size lkX9_168 (by assumption) rfl rfl rfl (Nat.le_of_ble_eq_true rfl) ⟨by decide, by decide⟩ (by decide) ?_
    refine c_X6_size hT2 ?_
    show G _ _ _ _ _ _ _ _ _ _ _ _ _
    refine G_iret (pc := 48) dX9_feed_48 rfl (by decide) ?_
    exact hq
  refine GCall.of (by decide) (Nat.le_of_ble_eq_true rfl) (ls := [(0, _), (1, _), (2, _)]) rfl ?_
  refine G_iload_n (pc := 0) dX9_feed_0 rfl ?_
  refine G_iconst (pc := 1) dX9_feed_1 ?_
  refine G_icmp_lt (pc := 2) 11 dX9_feed_2 rfl (by omega) (fun c2 => ?_) (fun c2 => ?_)
  · skip
    refine G_bipush (pc := 11) dX9_feed_11 rfl ?_
    refine G_iret (pc := 13) dX9_feed_13 rfl (by decide) ?_
    first | exact h0 (by omega) | exact h1 (by omega) (by omega)
  · skip
    refine G_iload_n (pc := 5) dX9_feed_5 rfl ?_
    refine G_bipush (pc := 6) dX9_feed_6 rfl ?_
    refine G_icmp_le (pc := 8) 14 dX9_feed_8 rfl (by omega) (fun c8 => ?_) (fun c8 => ?_)
    · skip
      refine S_aload_n (pc := 14) dX9_feed_14 rfl ?_
      refine S_getR (pc := 15) dX9_feed_15 fX9_31 (by assumption) rfl (by assumption) ?_
      refine S_callV (pc := 18) (ci := 6) (d2 := 1) (mc2 := 0) (ms2 := 0) (As := []) dX9_feed_18 kX6_size lkX9_168 (by assumption) rfl rfl rfl (Nat.le_of_ble_eq_true rfl) ⟨by decide, by decide⟩ (by decide) ?_
      refine c_X6_size hT ?_
      show G _ _ _ _ _ _ _ _ _ _ _ _ _
      refine G_iload_n (pc := 21) dX9_feed_21 rfl ?_
      refine G_iadd (pc := 22) dX9_feed_22 ?_
      refine G_sipush (pc := 23) dX9_feed_23 rfl ?_
      refine G_icmp_le (pc := 26) 32 dX9_feed_26 rfl (by omega) (fun c26 => ?_) (fun c26 => ?_)
      · skip
        refine S_aload_n (pc := 32) dX9_feed_32 rfl ?_
        refine S_getR (pc := 33) dX9_feed_33 fX9_31 (by assumption) rfl (by assumption) ?_
        refine G_iload_n (pc := 36) dX9_feed_36 rfl ?_
        refine G_lload_n (pc := 37) dX9_feed_37 rfl ?_
        refine S_callV (pc := 38) (ci := 6) (d2 := 2) (mc2 := 0) (ms2 := 0) (As := [_, _]) dX9_feed_38 kX6_append lkX9_171 (by assumption) rfl rfl rfl (Nat.le_of_ble_eq_true rfl) ⟨by decide, by decide⟩ (by decide) ?_
        refine c_X6_append hT (by omega) hz ?_
        show G _ _ _ _ _ _ _ _ _ _ _ _ _
        exact Kf (by omega) (by omega)
      · skip
        refine G_bipush (pc := 29) dX9_feed_29 rfl ?_
        refine G_iret (pc := 31) dX9_feed_31 rfl (by decide) ?_
        first | exact h0 (by omega) | exact h1 (by omega) (by omega)
    · skip
      refine G_bipush (pc := 11) dX9_feed_11 rfl ?_
      refine G_iret (pc := 13) dX9_feed_13 rfl (by decide) ?_
      first | exact h0 (by omega) | exact h1 (by omega) (by omega)
set_option maxRecDepth 100000 in
set_option maxHeartbeats 4000000 in
theorem c_X9_text {g : GC} {p N tc : Int} {sh : SH} {S : SS} {B : Int → Int} {n : Nat} {Q : Option Value → GA → Nat → Prop} (hW : PbW p sh S) (hT : TaW sh S N) (hB0 : ctB S N = B) (etc : S.1 0 10 = tc) (htc : 1 ≤ tc ∧ tc ≤ 6) (h43 : sh 43 = some (.inl 1)) (q43 : S.2.2 43 0 = some 5) (hX : tc < 6 → TxW sh S (ta tc))
    (h0 : tc = 6 → Q (some (.int (iI (-4)))) (hp g sh S) n)
    (h1 : tc < 6 → ∀ (kf : Nat) (S' : SS), ptx (tkk B) = .inl kf → TtR (ta tc) S S' → TaW sh S' 0 → TxW sh S' (ta tc) → Q (some (.int (iI (-100 - tka N B kf)))) (hp g sh S') n)
    (h2 : tc < 6 → ∀ (X : List Int × List Int × List Int) (S' : SS), ptx (tkk B) = .inr X → TtR (ta tc) S S' → TaW sh S' 0 → TxW sh S' (ta tc) → TxP S' (ta tc) X → Q (some (.int (iI tc))) (hp g sh (setF S' 0 10 (tc + 1))) n) : GCall g mX9_text 47 0 0 [gr g 0] (hp g sh S) n Q := by
  have hW' := hW
  obtain ⟨hK, hA, hMd, hPo⟩ := hW'
  obtain ⟨k0, q0, q1, q2, q3, q4, q7, q8, q9, q12, q13, q14, s1, s4, s9, s10, s11, f1, f2, f3⟩ := hK
  have hP := hA.1.1
  have hRs := hA.1.2.1
  have hpb := hP.bd
  have h12 := hRs.1
  have h13 := hA.1.2.2.1
  have h2s := hMd.1.1
  have hT' := hT
  obtain ⟨h5, -, -, -, h6, h7, h8, e1, hN, hby⟩ := hT'
  have hB := ctB_is hT
  rw [hB0] at hB
  have e4t : 44 ≤ ta tc := by unfold ta; omega
  have K36 : tc < 6 → ∀ (S2 S3 : SS) (fa : Int), TkR S S2 → GxR (ta tc) S2 S3 → GcX sh S3 N B (ta tc) → ((∃ kf : Nat, ptx (tkk B) = .inl kf ∧ fa = tka N B kf) ∨ (∃ X : List Int × List Int × List Int, ptx (tkk B) = .inr X ∧ fa = -1 ∧ TxP S3 (ta tc) X)) → G g mX9_text 47 0 0 36 [(1, .int (iI fa)), (0, gr g 0)] [] (hp g sh S3) n 0 0 Q := by
    intro z S2 S3 fa r1 v1 v2 hor
    have W3 := v2.1
    have T3 := GcX_tx v2
    have u7 : S3.2.2 0 7 = some 5 := (v1.2.2 0 7 (by decide)).trans (by rw [r1.2.2]; exact q7)
    have gR : TtR (ta tc) S (setF S3 5 1 0) := ⟨fun a k q1 q2 q3 => (setF_ne (Or.inl q1)).trans ((v1.1 a k q2 q3).trans (r1.1 a k (Or.inl q1))), fun a q1 q2 q3 q4 => (v1.2.1 a q3 q4).trans (r1.2.1 a ⟨q1, q2⟩), fun a j q => (v1.2.2 a j q).trans (by rw [r1.2.2])⟩
    have gT : TaW sh (setF S3 5 1 0) 0 := by
      obtain ⟨h5, q0, q2, q3, h6, h7, h8, e1, hN, hby⟩ := W3
      exact ⟨h5, q0, q2, q3, h6, h7, h8, setF_at, by decide, hby⟩
    have gE : ∀ k : Nat, (setF S3 5 1 0).1 (ta tc) k = S3.1 (ta tc) k := fun k => setF_ne (by omega)
    have gX : TxW sh (setF S3 5 1 0) (ta tc) := by
      obtain ⟨hx, h1, h2, h3, p0, p2, p4, hsz, hpa, htp, hen, hst, hsk⟩ := T3
      exact ⟨hx, h1, h2, h3, p0, p2, p4, by rw [gE]; exact hsz, by rw [gE]; exact hpa, by rw [gE]; exact htp, hen, hst, hsk⟩
    have e10 : (setF S3 5 1 0).1 0 10 = tc := (gR.1 0 10 (by decide) (by decide) (by omega)).trans etc
    rcases hor with ⟨kf, ek, ef⟩ | ⟨X, ek, ef, hQ⟩
    · have hq := h1 z kf _ ek gR gT gX
      have hb := tka_bd hB kf
      have hN2 := hB.1
      subst ef
      refine S_aload_n (pc := 36) dX9_text_36 rfl ?_
      refine S_getR (pc := 37) dX9_text_37 fX9_31 (by assumption) rfl (by assumption) ?_
      refine S_callV (pc := 40) (ci := 6) (d2 := 1) (mc2 := 0) (ms2 := 0) (As := []) dX9_text_40 kX6_wipe lkX9_100 (by assumption) rfl rfl rfl (Nat.le_of_ble_eq_true rfl) ⟨by decide, by decide⟩ (by decide) ?_
      refine c_X6_wipe W3 ?_
      show G _ _ _ _ _ _ _ _ _ _ _ _ _
      refine G_iload_n (pc := 43) dX9_text_43 rfl ?_
      refine G_iconst (pc := 44) dX9_text_44 ?_
      refine G_icmp_eq_f (pc := 45) 53 dX9_text_45 rfl (by omega) (by omega) ?_
      refine G_bipush (pc := 48) dX9_text_48 rfl ?_
      refine G_iload_n (pc := 50) dX9_text_50 rfl ?_
      refine G_isub (pc := 51) dX9_text_51 ?_
      refine G_iret (pc := 52) dX9_text_52 rfl (by decide) ?_
      exact hq
    · have gQ : TxP (setF S3 5 1 0) (ta tc) X := by
        obtain ⟨z1, z3, ze0, ze1, ze2, zl⟩ := hQ
        exact ⟨by rw [gE]; exact z1, by rw [gE]; exact z3, ze0, ze1, ze2, zl⟩
      have hq := h2 z X _ ek gR gT gX gQ
      have e10b : (setF (setF S3 5 1 0) 0 10 (tc + 1)).1 0 10 = tc + 1 := setF_at
      subst ef
      refine S_aload_n (pc := 36) dX9_text_36 rfl ?_
      refine S_getR (pc := 37) dX9_text_37 fX9_31 (by assumption) rfl (by assumption) ?_
      refine S_callV (pc := 40) (ci := 6) (d2 := 1) (mc2 := 0) (ms2 := 0) (As := []) dX9_text_40 kX6_wipe lkX9_100 (by assumption) rfl rfl rfl (Nat.le_of_ble_eq_true rfl) ⟨by decide, by decide⟩ (by decide) ?_
      refine c_X6_wipe W3 ?_
      show G _ _ _ _ _ _ _ _ _ _ _ _ _
      refine G_iload_n (pc := 43) dX9_text_43 rfl ?_
      refine G_iconst (pc := 44) dX9_text_44 ?_
      refine G_icmp_eq_t (pc := 45) 53 dX9_text_45 rfl (by omega) (by omega) ?_
      refine S_aload_n (pc := 53) dX9_text_53 rfl ?_
      refine G_dup (pc := 54) dX9_text_54 rfl ?_
      refine S_getI (pc := 55) dX9_text_55 fX9_103 (by assumption) rfl ?_
      rw [e10]
      refine G_iconst (pc := 58) dX9_text_58 ?_
      refine G_iadd (pc := 59) dX9_text_59 ?_
      refine S_putI (pc := 60) dX9_text_60 fX9_103 (by assumption) rfl ⟨rfl, rfl⟩ ?_
      refine S_aload_n (pc := 63) dX9_text_63 rfl ?_
      refine S_getI (pc := 64) dX9_text_64 fX9_103 (by assumption) rfl ?_
      rw [e10b]
      refine G_iconst (pc := 67) dX9_text_67 ?_
      refine G_isub (pc := 68) dX9_text_68 ?_
      refine G_iret (pc := 69) dX9_text_69 rfl (by decide) ?_
      rw [show tc + 1 - 1 = tc by omega]
      exact hq
  have K19 : tc < 6 → ∀ S2 : SS, TkR S S2 → TkW S2 N B → G g mX9_text 47 0 0 19 [(0, gr g 0)] [] (hp g sh S2) n 0 0 Q := by
    intro z S2 r1 r2
    have W2 := TaW_R r1 hT
    have u8 : S2.2.2 0 8 = some 43 := by rw [r1.2.2]; exact q8
    have u9 : S2.2.2 0 9 = some 9 := by rw [r1.2.2]; exact q9
    have u43 : S2.2.2 43 0 = some 5 := by rw [r1.2.2]; exact q43
    have u99 : S2.2.2 9 tc = some (ta tc) := by rw [r1.2.2]; exact f2 tc (by omega) z
    have e10 : S2.1 0 10 = tc := (r1.1 0 10 (by omega)).trans etc
    have T2 : TxW sh S2 (ta tc) := by
      obtain ⟨hx, h1, h2, h3, p0, p2, p4, hsz, hpa, htp, hen, hst, hsk⟩ := hX z
      have eF : ∀ k : Nat, S2.1 (ta tc) k = S.1 (ta tc) k := fun k => r1.1 _ k (by omega)
      have eA : ∀ a : Nat, 44 ≤ a → S2.2.1 a = S.2.1 a := fun a q => r1.2.1 a (by omega)
      exact ⟨hx, h1, h2, h3, by rw [r1.2.2]; exact p0, by rw [r1.2.2]; exact p2, by rw [r1.2.2]; exact p4, by rw [eF]; exact hsz, by rw [eF]; exact hpa, by rw [eF]; exact htp, by rw [eA _ (by omega)]; exact hen, by rw [eA _ (by omega)]; exact hst, by rw [eA _ (by omega)]; exact hsk⟩
    refine S_aload_n (pc := 19) dX9_text_19 rfl ?_
    refine S_getR (pc := 20) dX9_text_20 fX9_81 (by assumption) rfl (by assumption) ?_
    refine S_aload_n (pc := 23) dX9_text_23 rfl ?_
    refine S_getR (pc := 24) dX9_text_24 fX9_37 (by assumption) rfl (by assumption) ?_
    refine S_aload_n (pc := 27) dX9_text_27 rfl ?_
    refine S_getI (pc := 28) dX9_text_28 fX9_103 (by assumption) rfl ?_
    rw [e10]
    refine S_aald (pc := 31) dX9_text_31 (by assumption) rfl (by omega) (by assumption) ?_
    refine S_callV (pc := 32) (ci := 1) (d2 := 46) (mc2 := 0) (ms2 := 0) (As := [_]) dX9_text_32 kX1_readInto lkX9_96 (by assumption) rfl rfl rfl (Nat.le_of_ble_eq_true rfl) ⟨by decide, by decide⟩ (by decide) ?_
    refine c_X1_readInto W2 r2 hB h43 u43 e4t T2 (fun kf S3 e v1 v2 => ?_) (fun X S3 e v1 v2 v3 => ?_)
    · show G _ _ _ _ _ _ _ _ _ _ _ _ _
      refine G_istore_n (pc := 35) (ls' := [(1, _), (0, _)]) dX9_text_35 (by decide) rfl ?_
      first
        | exact K36 z S2 S3 _ r1 v1 v2 (Or.inl ⟨kf, e, rfl⟩)
        | exact K36 z S2 S3 _ r1 v1 v2 (Or.inr ⟨X, e, rfl, v3⟩)
    · show G _ _ _ _ _ _ _ _ _ _ _ _ _
      refine G_istore_n (pc := 35) (ls' := [(1, _), (0, _)]) dX9_text_35 (by decide) rfl ?_
      first
        | exact K36 z S2 S3 _ r1 v1 v2 (Or.inl ⟨kf, e, rfl⟩)
        | exact K36 z S2 S3 _ r1 v1 v2 (Or.inr ⟨X, e, rfl, v3⟩)
  refine GCall.of (by decide) (Nat.le_of_ble_eq_true rfl) (ls := [(0, _)]) rfl ?_
  refine S_aload_n (pc := 0) dX9_text_0 rfl ?_
  refine S_getI (pc := 1) dX9_text_1 fX9_103 (by assumption) rfl ?_
  rw [etc]
  refine G_bipush (pc := 4) dX9_text_4 rfl ?_
  refine G_icmp_lt (pc := 6) 12 dX9_text_6 rfl (by omega) (fun c6 => ?_) (fun c6 => ?_)
  · skip
    refine S_aload_n (pc := 12) dX9_text_12 rfl ?_
    refine S_getR (pc := 13) dX9_text_13 fX9_31 (by assumption) rfl (by assumption) ?_
    refine S_callV (pc := 16) (ci := 6) (d2 := 9) (mc2 := 0) (ms2 := 0) (As := []) dX9_text_16 kX6_cutUp lkX9_93 (by assumption) rfl rfl rfl (Nat.le_of_ble_eq_true rfl) ⟨by decide, by decide⟩ (by decide) ?_
    refine c_X6_cutUp hB0 hT (fun S2 r1 r2 => ?_)
    · show G _ _ _ _ _ _ _ _ _ _ _ _ _
      exact K19 (by omega) S2 r1 r2
  · skip
    refine G_bipush (pc := 9) dX9_text_9 rfl ?_
    refine G_iret (pc := 11) dX9_text_11 rfl (by decide) ?_
    exact h0 (by omega)
