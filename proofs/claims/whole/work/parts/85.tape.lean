/-! Tape -/
def TaW (sh : SH) (S : SS) (N : Int) : Prop := sh 5 = some (.inl 6) ∧ S.2.2 5 0 = some 6 ∧ S.2.2 5 2 = some 7 ∧ S.2.2 5 3 = some 8 ∧ sh 6 = some (.inr (0, 160)) ∧ sh 7 = some (.inr (1, 160)) ∧ sh 8 = some (.inr (1, 160)) ∧ S.1 5 1 = N ∧ (0 ≤ N ∧ N ≤ 160) ∧ ∀ i : Int, -128 ≤ S.2.1 6 i ∧ S.2.1 6 i ≤ 127
/-- the class's bytes as a text's -/
def ctB (S : SS) (N : Int) : Int → Int := bt N (fun i => S.2.1 6 i % 256)
theorem ctB_is {sh : SH} {S : SS} {N : Int} (h : TaW sh S N) : IsB N (ctB S N) := by
  obtain ⟨h5, q0, q2, q3, h6, h7, h8, e1, hN, hby⟩ := h
  refine ⟨hN, fun i hi => if_neg (by omega), fun i h0 hi => ?_⟩
  have : ctB S N i = S.2.1 6 i % 256 := if_pos ⟨h0, hi⟩
  rw [this]; omega
/-- byteAt's answer -/
def cb (S : SS) (N i : Int) : Int := if 0 ≤ i ∧ i < N then S.2.1 6 i else 256
theorem cb_B {sh : SH} {S : SS} {N i : Int} (h : TaW sh S N) : (0 ≤ cb S N i ∧ cb S N i ≤ 127 ∧ ctB S N i = cb S N i) ∨ (cb S N i < 0 ∧ -128 ≤ cb S N i ∧ ctB S N i = cb S N i + 256) ∨ (cb S N i = 256 ∧ ctB S N i = -1) := by
  obtain ⟨h5, q0, q2, q3, h6, h7, h8, e1, hN, hby⟩ := h
  have hb := hby i
  unfold cb ctB bt
  by_cases c : 0 ≤ i ∧ i < N
  · rw [if_pos c, if_pos c]
    show (0 ≤ S.2.1 6 i ∧ S.2.1 6 i ≤ 127 ∧ S.2.1 6 i % 256 = S.2.1 6 i) ∨ (S.2.1 6 i < 0 ∧ -128 ≤ S.2.1 6 i ∧ S.2.1 6 i % 256 = S.2.1 6 i + 256) ∨ _
    omega
  · rw [if_neg c, if_neg c]
    exact Or.inr (Or.inr ⟨rfl, rfl⟩)
/-- the same but for the tape's reading -/
def TkD (a : Nat) : Prop := a = 5 ∨ a = 7 ∨ a = 8
def TkR (S S' : SS) : Prop := (∀ a k : Nat, (a ≠ 5 ∨ k < 4) → S'.1 a k = S.1 a k) ∧ (∀ a : Nat, a ≠ 7 ∧ a ≠ 8 → S'.2.1 a = S.2.1 a) ∧ S'.2.2 = S.2.2
theorem TkR_rf {S : SS} : TkR S S := ⟨fun _ _ _ => rfl, fun _ _ => rfl, rfl⟩
theorem TkR_tr {S S' S'' : SS} (h : TkR S S') (h' : TkR S' S'') : TkR S S'' := ⟨fun a k q => (h'.1 a k q).trans (h.1 a k q), fun a q => (h'.2.1 a q).trans (h.2.1 a q), h'.2.2.trans h.2.2⟩
theorem TkR_F {S S' : SS} {k : Nat} {v : Int} (h : TkR S S') (hk : 4 ≤ k) : TkR S (setF S' 5 k v) := ⟨fun a j q => (setF_ne (by omega)).trans (h.1 a j q), h.2.1, h.2.2⟩
theorem TkR_A {S S' : SS} {b : Nat} {xs : Int → Int} (h : TkR S S') (hb : b = 7 ∨ b = 8) : TkR S (putA S' b xs) := ⟨h.1, fun a q => (putA_ne (by omega)).trans (h.2.1 a q), h.2.2⟩
theorem TaW_R {sh : SH} {S S' : SS} {N : Int} (h : TkR S S') (hW : TaW sh S N) : TaW sh S' N := by
  obtain ⟨h5, q0, q2, q3, h6, h7, h8, e1, hN, hby⟩ := hW
  exact ⟨h5, by rw [h.2.2]; exact q0, by rw [h.2.2]; exact q2, by rw [h.2.2]; exact q3, h6, h7, h8, by rw [h.1 5 1 (by decide)]; exact e1, hN, by rw [h.2.1 6 (by decide)]; exact hby⟩
theorem ctB_R {S S' : SS} {N : Int} (h : TkR S S') : ctB S' N = ctB S N := by unfold ctB; rw [h.2.1 6 (by decide)]
theorem cb_R {S S' : SS} {N : Int} (h : TkR S S') : cb S' N = cb S N := by funext i; unfold cb; rw [h.2.1 6 (by decide)]
theorem cb_bd {sh : SH} {S : SS} {N i : Int} (h : TaW sh S N) : -128 ≤ cb S N i ∧ cb S N i ≤ 256 := by
  rcases cb_B (i := i) h with h | h | h <;> omega
set_option maxRecDepth 100000 in
set_option maxHeartbeats 4000000 in
theorem c_X6_size {g : GC} {sh : SH} {S : SS} {n : Nat} {N : Int} {Q : Option Value → GA → Nat → Prop} (hW : TaW sh S N) (hq : Q (some (.int (iI N))) (hp g sh S) n) : GCall g mX6_size 1 0 0 [gr g 5] (hp g sh S) n Q := by
  have hW' := hW
  obtain ⟨h5, q0, q2, q3, h6, h7, h8, e1, hN, hby⟩ := hW'
  refine GCall.of (by decide) (Nat.le_of_ble_eq_true rfl) (ls := [(0, _)]) rfl ?_
  refine S_aload_n (pc := 0) dX6_size_0 rfl ?_
  refine S_getI (pc := 1) dX6_size_1 fX6_22 (by assumption) rfl ?_
  rw [e1]
  refine G_iret (pc := 4) dX6_size_4 rfl (by decide) ?_
  exact hq
set_option maxRecDepth 100000 in
set_option maxHeartbeats 4000000 in
theorem c_X6_wipe {g : GC} {sh : SH} {S : SS} {n : Nat} {N : Int} {Q : Option Value → GA → Nat → Prop} (hW : TaW sh S N) (hq : Q none (hp g sh (setF S 5 1 0)) n) : GCall g mX6_wipe 1 0 0 [gr g 5] (hp g sh S) n Q := by
  have hW' := hW
  obtain ⟨h5, q0, q2, q3, h6, h7, h8, e1, hN, hby⟩ := hW'
  refine GCall.of (by decide) (Nat.le_of_ble_eq_true rfl) (ls := [(0, _)]) rfl ?_
  refine S_aload_n (pc := 0) dX6_wipe_0 rfl ?_
  refine G_iconst (pc := 1) dX6_wipe_1 ?_
  refine S_putI (pc := 2) dX6_wipe_2 fX6_22 (by assumption) rfl ⟨rfl, rfl⟩ ?_
  refine G_vret (pc := 5) dX6_wipe_5 rfl (by decide) ?_
  exact hq
set_option maxRecDepth 100000 in
set_option maxHeartbeats 4000000 in
theorem c_X6_byteAt {g : GC} {sh : SH} {S : SS} {n : Nat} {N : Int} {i : Int} {Q : Option Value → GA → Nat → Prop} (hW : TaW sh S N) (hi : -1000 ≤ i ∧ i ≤ 1000) (hq : Q (some (.int (iI (cb S N i)))) (hp g sh S) n) : GCall g mX6_byteAt 1 0 0 [gr g 5, .int (iI i)] (hp g sh S) n Q := by
  have hW' := hW
  obtain ⟨h5, q0, q2, q3, h6, h7, h8, e1, hN, hby⟩ := hW'
  unfold cb at hq
  refine GCall.of (by decide) (Nat.le_of_ble_eq_true rfl) (ls := [(0, _), (1, _)]) rfl ?_
  refine G_iload_n (pc := 0) dX6_byteAt_0 rfl ?_
  refine G_if_lt (pc := 1) 30 dX6_byteAt_1 rfl (by omega) (fun c1 => ?_) (fun c1 => ?_)
  · skip
    refine G_sipush (pc := 30) dX6_byteAt_30 rfl ?_
    refine G_iret (pc := 33) dX6_byteAt_33 rfl (by decide) ?_
    first | (rw [if_pos (by omega)] at hq; exact hq) | (rw [if_neg (by omega)] at hq; exact hq)
  · skip
    refine G_iload_n (pc := 4) dX6_byteAt_4 rfl ?_
    refine S_aload_n (pc := 5) dX6_byteAt_5 rfl ?_
    refine S_getI (pc := 6) dX6_byteAt_6 fX6_22 (by assumption) rfl ?_
    rw [e1]
    refine G_icmp_ge (pc := 9) 30 dX6_byteAt_9 rfl (by omega) (fun c9 => ?_) (fun c9 => ?_)
    · skip
      refine G_sipush (pc := 30) dX6_byteAt_30 rfl ?_
      refine G_iret (pc := 33) dX6_byteAt_33 rfl (by decide) ?_
      first | (rw [if_pos (by omega)] at hq; exact hq) | (rw [if_neg (by omega)] at hq; exact hq)
    · skip
      refine G_iload_n (pc := 12) dX6_byteAt_12 rfl ?_
      refine S_aload_n (pc := 13) dX6_byteAt_13 rfl ?_
      refine S_getR (pc := 14) dX6_byteAt_14 fX6_9 (by assumption) rfl (by assumption) ?_
      refine S_alen (pc := 17) dX6_byteAt_17 (Or.inr (by assumption)) ?_
      refine G_icmp_ge (pc := 18) 30 dX6_byteAt_18 rfl (by omega) (fun c18 => ?_) (fun c18 => ?_)
      · skip
        refine G_sipush (pc := 30) dX6_byteAt_30 rfl ?_
        refine G_iret (pc := 33) dX6_byteAt_33 rfl (by decide) ?_
        first | (rw [if_pos (by omega)] at hq; exact hq) | (rw [if_neg (by omega)] at hq; exact hq)
      · skip
        refine S_aload_n (pc := 21) dX6_byteAt_21 rfl ?_
        refine S_getR (pc := 22) dX6_byteAt_22 fX6_9 (by assumption) rfl (by assumption) ?_
        refine G_iload_n (pc := 25) dX6_byteAt_25 rfl ?_
        refine S_bald (pc := 26) dX6_byteAt_26 (by assumption) (by omega) ?_
        refine G_goto (pc := 27) 33 dX6_byteAt_27 rfl ?_
        refine G_iret (pc := 33) dX6_byteAt_33 rfl (by decide) ?_
        first | (rw [if_pos (by omega)] at hq; exact hq) | (rw [if_neg (by omega)] at hq; exact hq)
set_option maxRecDepth 100000 in
set_option maxHeartbeats 4000000 in
theorem c_X6_isLetter {g : GC} {h : GA} {n : Nat} {b : Int} {Q : Option Value → GA → Nat → Prop} (hb : -1000 ≤ b ∧ b ≤ 1000) (h1 : (97 ≤ b ∧ b ≤ 122) → Q (some (.int (iI 1))) h n) (h0 : ¬ (97 ≤ b ∧ b ≤ 122) → Q (some (.int (iI 0))) h n) : GCall g mX6_isLetter 1 0 0 [.int (iI b)] h n Q := by
  refine GCall.of (by decide) (Nat.le_of_ble_eq_true rfl) (ls := [(0, _)]) rfl ?_
  refine G_iload_n (pc := 0) dX6_isLetter_0 rfl ?_
  refine G_bipush (pc := 1) dX6_isLetter_1 rfl ?_
  refine G_icmp_lt (pc := 3) 16 dX6_isLetter_3 rfl (by omega) (fun c3 => ?_) (fun c3 => ?_)
  · skip
    refine G_iconst (pc := 16) dX6_isLetter_16 ?_
    refine G_zret (pc := 17) dX6_isLetter_17 rfl nar_z0 (by decide) ?_
    first | exact h1 (by omega) | exact h0 (by omega)
  · skip
    refine G_iload_n (pc := 6) dX6_isLetter_6 rfl ?_
    refine G_bipush (pc := 7) dX6_isLetter_7 rfl ?_
    refine G_icmp_gt (pc := 9) 16 dX6_isLetter_9 rfl (by omega) (fun c9 => ?_) (fun c9 => ?_)
    · skip
      refine G_iconst (pc := 16) dX6_isLetter_16 ?_
      refine G_zret (pc := 17) dX6_isLetter_17 rfl nar_z0 (by decide) ?_
      first | exact h1 (by omega) | exact h0 (by omega)
    · skip
      refine G_iconst (pc := 12) dX6_isLetter_12 ?_
      refine G_goto (pc := 13) 17 dX6_isLetter_13 rfl ?_
      refine G_zret (pc := 17) dX6_isLetter_17 rfl nar_z1 (by decide) ?_
      first | exact h1 (by omega) | exact h0 (by omega)
set_option maxRecDepth 100000 in
set_option maxHeartbeats 4000000 in
theorem c_X6_isDigit {g : GC} {h : GA} {n : Nat} {b : Int} {Q : Option Value → GA → Nat → Prop} (hb : -1000 ≤ b ∧ b ≤ 1000) (h1 : (48 ≤ b ∧ b ≤ 57) → Q (some (.int (iI 1))) h n) (h0 : ¬ (48 ≤ b ∧ b ≤ 57) → Q (some (.int (iI 0))) h n) : GCall g mX6_isDigit 1 0 0 [.int (iI b)] h n Q := by
  refine GCall.of (by decide) (Nat.le_of_ble_eq_true rfl) (ls := [(0, _)]) rfl ?_
  refine G_iload_n (pc := 0) dX6_isDigit_0 rfl ?_
  refine G_bipush (pc := 1) dX6_isDigit_1 rfl ?_
  refine G_icmp_lt (pc := 3) 16 dX6_isDigit_3 rfl (by omega) (fun c3 => ?_) (fun c3 => ?_)
  · skip
    refine G_iconst (pc := 16) dX6_isDigit_16 ?_
    refine G_zret (pc := 17) dX6_isDigit_17 rfl nar_z0 (by decide) ?_
    first | exact h1 (by omega) | exact h0 (by omega)
  · skip
    refine G_iload_n (pc := 6) dX6_isDigit_6 rfl ?_
    refine G_bipush (pc := 7) dX6_isDigit_7 rfl ?_
    refine G_icmp_gt (pc := 9) 16 dX6_isDigit_9 rfl (by omega) (fun c9 => ?_) (fun c9 => ?_)
    · skip
      refine G_iconst (pc := 16) dX6_isDigit_16 ?_
      refine G_zret (pc := 17) dX6_isDigit_17 rfl nar_z0 (by decide) ?_
      first | exact h1 (by omega) | exact h0 (by omega)
    · skip
      refine G_iconst (pc := 12) dX6_isDigit_12 ?_
      refine G_goto (pc := 13) 17 dX6_isDigit_13 rfl ?_
      refine G_zret (pc := 17) dX6_isDigit_17 rfl nar_z1 (by decide) ?_
      first | exact h1 (by omega) | exact h0 (by omega)
set_option maxRecDepth 100000 in
set_option maxHeartbeats 4000000 in
theorem c_X6_isSign {g : GC} {h : GA} {n : Nat} {b : Int} {Q : Option Value → GA → Nat → Prop} (hb : -1000 ≤ b ∧ b ≤ 1000) (h1 : isg b = true → Q (some (.int (iI 1))) h n) (h0 : ¬ isg b = true → Q (some (.int (iI 0))) h n) : GCall g mX6_isSign 1 0 0 [.int (iI b)] h n Q := by
  refine GCall.of (by decide) (Nat.le_of_ble_eq_true rfl) (ls := [(0, _)]) rfl ?_
  have K104 : isg b = true → G g mX6_isSign 1 0 0 104 [(0, .int (iI b))] [] h n 0 0 Q := by
    intro z
    refine G_iconst (pc := 104) dX6_isSign_104 ?_
    refine G_zret (pc := 105) dX6_isSign_105 rfl nar_z1 (by decide) ?_
    exact h1 z
  have K106 : ¬ isg b = true → G g mX6_isSign 1 0 0 106 [(0, .int (iI b))] [] h n 0 0 Q := by
    intro z
    refine G_iconst (pc := 106) dX6_isSign_106 ?_
    refine G_zret (pc := 107) dX6_isSign_107 rfl nar_z0 (by decide) ?_
    exact h0 z
  by_cases hin : 40 ≤ b ∧ b ≤ 61
  · have hc : b = 40 ∨ b = 41 ∨ b = 42 ∨ b = 43 ∨ b = 44 ∨ b = 45 ∨ b = 46 ∨ b = 47 ∨ b = 48 ∨ b = 49 ∨ b = 50 ∨ b = 51 ∨ b = 52 ∨ b = 53 ∨ b = 54 ∨ b = 55 ∨ b = 56 ∨ b = 57 ∨ b = 58 ∨ b = 59 ∨ b = 60 ∨ b = 61 := by omega
    rcases hc with e | e | e | e | e | e | e | e | e | e | e | e | e | e | e | e | e | e | e | e | e | e
    · subst e
      refine G_iload_n (pc := 0) dX6_isSign_0 rfl ?_
      refine G_tin (pc := 1) 0 104 dX6_isSign_1 (by omega) (by omega) (by omega) rfl (by decide) ?_
      · skip
        skip
        exact K104 (by decide)
    · subst e
      refine G_iload_n (pc := 0) dX6_isSign_0 rfl ?_
      refine G_tin (pc := 1) 1 104 dX6_isSign_1 (by omega) (by omega) (by omega) rfl (by decide) ?_
      · skip
        skip
        exact K104 (by decide)
    · subst e
      refine G_iload_n (pc := 0) dX6_isSign_0 rfl ?_
      refine G_tin (pc := 1) 2 104 dX6_isSign_1 (by omega) (by omega) (by omega) rfl (by decide) ?_
      · skip
        skip
        exact K104 (by decide)
    · subst e
      refine G_iload_n (pc := 0) dX6_isSign_0 rfl ?_
      refine G_tin (pc := 1) 3 104 dX6_isSign_1 (by omega) (by omega) (by omega) rfl (by decide) ?_
      · skip
        skip
        exact K104 (by decide)
    · subst e
      refine G_iload_n (pc := 0) dX6_isSign_0 rfl ?_
      refine G_tin (pc := 1) 4 106 dX6_isSign_1 (by omega) (by omega) (by omega) rfl (by decide) ?_
      · skip
        skip
        exact K106 (by decide)
    · subst e
      refine G_iload_n (pc := 0) dX6_isSign_0 rfl ?_
      refine G_tin (pc := 1) 5 104 dX6_isSign_1 (by omega) (by omega) (by omega) rfl (by decide) ?_
      · skip
        skip
        exact K104 (by decide)
    · subst e
      refine G_iload_n (pc := 0) dX6_isSign_0 rfl ?_
      refine G_tin (pc := 1) 6 106 dX6_isSign_1 (by omega) (by omega) (by omega) rfl (by decide) ?_
      · skip
        skip
        exact K106 (by decide)
    · subst e
      refine G_iload_n (pc := 0) dX6_isSign_0 rfl ?_
      refine G_tin (pc := 1) 7 106 dX6_isSign_1 (by omega) (by omega) (by omega) rfl (by decide) ?_
      · skip
        skip
        exact K106 (by decide)
    · subst e
      refine G_iload_n (pc := 0) dX6_isSign_0 rfl ?_
      refine G_tin (pc := 1) 8 106 dX6_isSign_1 (by omega) (by omega) (by omega) rfl (by decide) ?_
      · skip
        skip
        exact K106 (by decide)
    · subst e
      refine G_iload_n (pc := 0) dX6_isSign_0 rfl ?_
      refine G_tin (pc := 1) 9 106 dX6_isSign_1 (by omega) (by omega) (by omega) rfl (by decide) ?_
      · skip
        skip
        exact K106 (by decide)
    · subst e
      refine G_iload_n (pc := 0) dX6_isSign_0 rfl ?_
      refine G_tin (pc := 1) 10 106 dX6_isSign_1 (by omega) (by omega) (by omega) rfl (by decide) ?_
      · skip
        skip
        exact K106 (by decide)
    · subst e
      refine G_iload_n (pc := 0) dX6_isSign_0 rfl ?_
      refine G_tin (pc := 1) 11 106 dX6_isSign_1 (by omega) (by omega) (by omega) rfl (by decide) ?_
      · skip
        skip
        exact K106 (by decide)
    · subst e
      refine G_iload_n (pc := 0) dX6_isSign_0 rfl ?_
      refine G_tin (pc := 1) 12 106 dX6_isSign_1 (by omega) (by omega) (by omega) rfl (by decide) ?_
      · skip
        skip
        exact K106 (by decide)
    · subst e
      refine G_iload_n (pc := 0) dX6_isSign_0 rfl ?_
      refine G_tin (pc := 1) 13 106 dX6_isSign_1 (by omega) (by omega) (by omega) rfl (by decide) ?_
      · skip
        skip
        exact K106 (by decide)
    · subst e
      refine G_iload_n (pc := 0) dX6_isSign_0 rfl ?_
      refine G_tin (pc := 1) 14 106 dX6_isSign_1 (by omega) (by omega) (by omega) rfl (by decide) ?_
      · skip
        skip
        exact K106 (by decide)
    · subst e
      refine G_iload_n (pc := 0) dX6_isSign_0 rfl ?_
      refine G_tin (pc := 1) 15 106 dX6_isSign_1 (by omega) (by omega) (by omega) rfl (by decide) ?_
      · skip
        skip
        exact K106 (by decide)
    · subst e
      refine G_iload_n (pc := 0) dX6_isSign_0 rfl ?_
      refine G_tin (pc := 1) 16 106 dX6_isSign_1 (by omega) (by omega) (by omega) rfl (by decide) ?_
      · skip
        skip
        exact K106 (by decide)
    · subst e
      refine G_iload_n (pc := 0) dX6_isSign_0 rfl ?_
      refine G_tin (pc := 1) 17 106 dX6_isSign_1 (by omega) (by omega) (by omega) rfl (by decide) ?_
      · skip
        skip
        exact K106 (by decide)
    · subst e
      refine G_iload_n (pc := 0) dX6_isSign_0 rfl ?_
      refine G_tin (pc := 1) 18 106 dX6_isSign_1 (by omega) (by omega) (by omega) rfl (by decide) ?_
      · skip
        skip
        exact K106 (by decide)
    · subst e
      refine G_iload_n (pc := 0) dX6_isSign_0 rfl ?_
      refine G_tin (pc := 1) 19 104 dX6_isSign_1 (by omega) (by omega) (by omega) rfl (by decide) ?_
      · skip
        skip
        exact K104 (by decide)
    · subst e
      refine G_iload_n (pc := 0) dX6_isSign_0 rfl ?_
      refine G_tin (pc := 1) 20 104 dX6_isSign_1 (by omega) (by omega) (by omega) rfl (by decide) ?_
      · skip
        skip
        exact K104 (by decide)
    · subst e
      refine G_iload_n (pc := 0) dX6_isSign_0 rfl ?_
      refine G_tin (pc := 1) 21 104 dX6_isSign_1 (by omega) (by omega) (by omega) rfl (by decide) ?_
      · skip
        skip
        exact K104 (by decide)
  · skip
    refine G_iload_n (pc := 0) dX6_isSign_0 rfl ?_
    refine G_tout (pc := 1) 106 dX6_isSign_1 (by omega) (by omega) (by decide) ?_
    · skip
      skip
      exact K106 (fun z => by have := isg_iff.mp z; omega)
set_option maxRecDepth 100000 in
set_option maxHeartbeats 4000000 in
theorem c_X6_add {g : GC} {sh : SH} {S : SS} {n : Nat} {N : Int} {b : Int} {Q : Option Value → GA → Nat → Prop} (hW : TaW sh S N) (hlt : N < 160) (hq : Q none (hp g sh (setF (setA S 6 N (b8 b)) 5 1 (N + 1))) n) : GCall g mX6_add 1 0 0 [gr g 5, .int (iI b)] (hp g sh S) n Q := by
  have hW' := hW
  obtain ⟨h5, q0, q2, q3, h6, h7, h8, e1, hN, hby⟩ := hW'
  refine GCall.of (by decide) (Nat.le_of_ble_eq_true rfl) (ls := [(0, _), (1, _)]) rfl ?_
  have e2 : (setA S 6 N (b8 b)).1 5 1 = N := e1
  refine S_aload_n (pc := 0) dX6_add_0 rfl ?_
  refine S_getI (pc := 1) dX6_add_1 fX6_22 (by assumption) rfl ?_
  rw [e1]
  refine S_aload_n (pc := 4) dX6_add_4 rfl ?_
  refine S_getR (pc := 5) dX6_add_5 fX6_9 (by assumption) rfl (by assumption) ?_
  refine S_alen (pc := 8) dX6_add_8 (Or.inr (by assumption)) ?_
  refine G_icmp_ge_f (pc := 9) 32 dX6_add_9 rfl (by omega) (by omega) ?_
  refine S_aload_n (pc := 12) dX6_add_12 rfl ?_
  refine S_getR (pc := 13) dX6_add_13 fX6_9 (by assumption) rfl (by assumption) ?_
  refine S_aload_n (pc := 16) dX6_add_16 rfl ?_
  refine S_getI (pc := 17) dX6_add_17 fX6_22 (by assumption) rfl ?_
  rw [e1]
  refine G_iload_n (pc := 20) dX6_add_20 rfl ?_
  refine S_bast (pc := 21) dX6_add_21 (by assumption) (by omega) nb8 ?_
  refine S_aload_n (pc := 22) dX6_add_22 rfl ?_
  refine G_dup (pc := 23) dX6_add_23 rfl ?_
  refine S_getI (pc := 24) dX6_add_24 fX6_22 (by assumption) rfl ?_
  rw [e2]
  refine G_iconst (pc := 27) dX6_add_27 ?_
  refine G_iadd (pc := 28) dX6_add_28 ?_
  refine S_putI (pc := 29) dX6_add_29 fX6_22 (by assumption) rfl ⟨rfl, rfl⟩ ?_
  refine G_vret (pc := 32) dX6_add_32 rfl (by decide) ?_
  exact hq
theorem b8_b8 {z : Int} : b8 (b8 z) = b8 z := by unfold b8; omega
theorem b8_bd {z : Int} : -128 ≤ b8 z ∧ b8 z ≤ 127 := by unfold b8; omega
def tcd (tp z : Int) : Int → Int := fun j => b8 (z / 256 ^ (j - tp).toNat)
theorem TaW_add {sh : SH} {S : SS} {N m : Int} {F : Int → Int} (hW : TaW sh S N) (hm : 0 ≤ m ∧ N + m ≤ 160) (hF : ∀ j : Int, -128 ≤ F j ∧ F j ≤ 127) : TaW sh (setF (putA S 6 (seg N (N + m) F (S.2.1 6))) 5 1 (N + m)) (N + m) := by
  have hW' := hW
  obtain ⟨h5, q0, q2, q3, h6, h7, h8, e1, hN, hby⟩ := hW'
  refine ⟨h5, q0, q2, q3, h6, h7, h8, setF_at, by omega, fun i => ?_⟩
  show -128 ≤ (putA S 6 _).2.1 6 i ∧ (putA S 6 _).2.1 6 i ≤ 127
  rw [putA_at]
  by_cases c : N ≤ i ∧ i < N + m
  · rw [seg_in c]; exact hF i
  · rw [seg_out c]; exact hby i
set_option maxRecDepth 100000 in
set_option maxHeartbeats 4000000 in
theorem l_X6_append {g : GC} {sh : SH} {S : SS} {n : Nat} {N : Int} {m z : Int} {Q : Option Value → GA → Nat → Prop} (hW : TaW sh S N) (hm : 0 ≤ m ∧ m ≤ 8 ∧ N + m ≤ 160) (hz : -9223372036854775808 ≤ z ∧ z ≤ 9223372036854775807)
    (hq : Q none (hp g sh (setF (putA S 6 (seg N (N + m) (tcd N z) (S.2.1 6))) 5 1 (N + m))) n) : ∀ (k : Nat) (i : Int), i + k = m → 0 ≤ i → G g mX6_append 2 0 0 3 [(4, .int (iI i)), (0, gr g 5), (1, .int (iI m)), (2, .long (iL z))] [] (hp g sh (setF (putA S 6 (seg N (N + i) (tcd N z) (S.2.1 6))) 5 1 (N + i))) n 0 0 Q := by
  have hW' := hW
  obtain ⟨h5, q0, q2, q3, h6, h7, h8, e1, hN, hby⟩ := hW'
  intro k
  induction k with
  | zero =>
    intro i hi h0
    have e : i = m := by omega
    subst e
    refine G_iload (pc := 3) dX6_append_3 rfl ?_
    refine G_iload_n (pc := 5) dX6_append_5 rfl ?_
    refine G_icmp_ge_t (pc := 6) 28 dX6_append_6 rfl (by omega) (by omega) ?_
    refine G_vret (pc := 28) dX6_append_28 rfl (by decide) ?_
    exact hq
  | succ k ih =>
    intro i hi h0
    have hn := ih (i + 1) (by omega) (by omega)
    rw [show N + (i + 1) = N + i + 1 by omega, ← seg_S (by omega)] at hn
    have W2 := TaW_add (F := tcd N z) hW (m := i) (by omega) (fun j => b8_bd)
    have ev : b8 (b8 (z / 256 ^ i.toNat)) = tcd N z (N + i) := by
      rw [b8_b8]
      unfold tcd
      rw [show N + i - N = i by omega]
    refine G_iload (pc := 3) dX6_append_3 rfl ?_
    refine G_iload_n (pc := 5) dX6_append_5 rfl ?_
    refine G_icmp_ge_f (pc := 6) 28 dX6_append_6 rfl (by omega) (by omega) ?_
    refine S_aload_n (pc := 9) dX6_append_9 rfl ?_
    refine G_lload_n (pc := 10) dX6_append_10 rfl ?_
    refine G_bipush (pc := 11) dX6_append_11 rfl ?_
    refine G_iload (pc := 13) dX6_append_13 rfl ?_
    refine G_imul (pc := 15) dX6_append_15 ?_
    refine G_lshr (pc := 16) dX6_append_16 (iL_byte hz (by omega)) ?_
    refine G_l2i (pc := 17) dX6_append_17 ?_
    refine G_i2b (pc := 18) dX6_append_18 nb8 ?_
    refine S_callV (pc := 19) (ci := 6) (d2 := 1) (mc2 := 0) (ms2 := 0) (As := [_]) dX6_append_19 kX6_add lkX6_29 (by assumption) rfl rfl rfl (Nat.le_of_ble_eq_true rfl) ⟨by decide, by decide⟩ (by decide) ?_
    refine c_X6_add W2 (by omega) ?_
    show G _ _ _ _ _ _ _ _ _ _ _ _ _
    refine G_iinc (pc := 22) (ls' := [(4, _), (0, _), (1, _), (2, _)]) dX6_append_22 rfl (by decide) rfl ?_
    refine G_goto (pc := 25) 3 dX6_append_25 rfl ?_
    rw [ev, setA_setF, setF_setF, setA_putA]
    exact hn
set_option maxRecDepth 100000 in
set_option maxHeartbeats 4000000 in
theorem c_X6_append {g : GC} {sh : SH} {S : SS} {n : Nat} {N : Int} {m z : Int} {Q : Option Value → GA → Nat → Prop} (hW : TaW sh S N) (hm : 0 ≤ m ∧ m ≤ 8 ∧ N + m ≤ 160) (hz : -9223372036854775808 ≤ z ∧ z ≤ 9223372036854775807)
    (hq : Q none (hp g sh (setF (putA S 6 (seg N (N + m) (tcd N z) (S.2.1 6))) 5 1 (N + m))) n) : GCall g mX6_append 2 0 0 [gr g 5, .int (iI m), .long (iL z)] (hp g sh S) n Q := by
  have hW' := hW
  obtain ⟨h5, q0, q2, q3, h6, h7, h8, e1, hN, hby⟩ := hW'
  refine GCall.of (by decide) (Nat.le_of_ble_eq_true rfl) (ls := [(0, _), (1, _), (2, _)]) rfl ?_
  refine G_iconst (pc := 0) dX6_append_0 ?_
  refine G_istore (pc := 1) (ls' := [(4, _), (0, _), (1, _), (2, _)]) dX6_append_1 (by decide) rfl ?_
  have := l_X6_append hW hm hz hq m.toNat 0 (by omega) (Int.le_refl _)
  rw [Int.add_zero, seg_0, putA_same, show setF S 5 1 N = S by rw [← e1]; exact setF_same] at this
  exact this
set_option maxRecDepth 100000 in
set_option maxHeartbeats 4000000 in
theorem l_X6_write {g : GC} {sh : SH} {S : SS} {n : Nat} {N : Int} {i : Nat} {Q : Option Value → GA → Nat → Prop} (hi : i < 13) (hW : TaW sh S N) (hm : N + (gStrLen.getD i 0 : Nat) ≤ 160)
    (hq : Q none (hp g sh (setF (putA S 6 (seg N (N + (gStrLen.getD i 0 : Nat)) (fun j => gsc i (j - N)) (S.2.1 6))) 5 1 (N + (gStrLen.getD i 0 : Nat)))) n) : ∀ (k : Nat) (j : Int), j + k = (gStrLen.getD i 0 : Nat) → 0 ≤ j → G g mX6_write 5 0 0 2 [(2, .int (iI j)), (0, gr g 5), (1, .ref (gSK g i))] [] (hp g sh (setF (putA S 6 (seg N (N + j) (fun j => b8 (gsc i (j - N))) (S.2.1 6))) 5 1 (N + j))) n 0 0 Q := by
  have hW' := hW
  obtain ⟨h5, q0, q2, q3, h6, h7, h8, e1, hN, hby⟩ := hW'
  have hl := gStr_len hi
  intro k
  induction k with
  | zero =>
    intro j hj h0
    have hfin : seg N (N + j) (fun j => b8 (gsc i (j - N))) (S.2.1 6) = seg N (N + (gStrLen.getD i 0 : Nat)) (fun j => gsc i (j - N)) (S.2.1 6) := by
      funext x
      by_cases c : N ≤ x ∧ x < N + j
      · rw [seg_in c, seg_in (by omega)]
        have := gStr_sgn hi (j := x - N) (by omega)
        show b8 (gsc i (x - N)) = gsc i (x - N)
        unfold b8; omega
      · rw [seg_out c, seg_out (by omega)]
    rw [← hfin, show N + ((gStrLen.getD i 0 : Nat) : Int) = N + j by omega] at hq
    refine G_iload_n (pc := 2) dX6_write_2 rfl ?_
    refine G_aload_n (pc := 3) dX6_write_3 rfl ?_
    refine G_callStr (pc := 4) (d2 := 2) (mc2 := 0) (ms2 := 0) (As := []) (by assumption) dX6_write_4 kJ0_length_8abf5 lkX6_33 rfl rfl rfl (Nat.le_of_ble_eq_true rfl) ⟨by decide, by decide⟩ (by decide) ?_
    refine c_J0_length hi ?_
    show G _ _ _ _ _ _ _ _ _ _ _ _ _
    refine G_icmp_ge_t (pc := 7) 26 dX6_write_7 rfl (by omega) (by omega) ?_
    refine G_vret (pc := 26) dX6_write_26 rfl (by decide) ?_
    exact hq
  | succ k ih =>
    intro j hj h0
    have hn := ih (j + 1) (by omega) (by omega)
    rw [show N + (j + 1) = N + j + 1 by omega, ← seg_S (by omega)] at hn
    have W2 := TaW_add (F := fun j => b8 (gsc i (j - N))) hW (m := j) (by omega) (fun j => b8_bd)
    have ev : b8 (b8 (gsc i j)) = (fun j => b8 (gsc i (j - N))) (N + j) := by
      rw [b8_b8]
      show _ = b8 (gsc i (N + j - N))
      rw [show N + j - N = j by omega]
    refine G_iload_n (pc := 2) dX6_write_2 rfl ?_
    refine G_aload_n (pc := 3) dX6_write_3 rfl ?_
    refine G_callStr (pc := 4) (d2 := 2) (mc2 := 0) (ms2 := 0) (As := []) (by assumption) dX6_write_4 kJ0_length_8abf5 lkX6_33 rfl rfl rfl (Nat.le_of_ble_eq_true rfl) ⟨by decide, by decide⟩ (by decide) ?_
    refine c_J0_length hi ?_
    show G _ _ _ _ _ _ _ _ _ _ _ _ _
    refine G_icmp_ge_f (pc := 7) 26 dX6_write_7 rfl (by omega) (by omega) ?_
    refine S_aload_n (pc := 10) dX6_write_10 rfl ?_
    refine G_aload_n (pc := 11) dX6_write_11 rfl ?_
    refine G_iload_n (pc := 12) dX6_write_12 rfl ?_
    refine G_callStr (pc := 13) (d2 := 4) (mc2 := 0) (ms2 := 0) (As := [_]) (by assumption) dX6_write_13 kJ0_charAt_5068e lkX6_39 rfl rfl rfl (Nat.le_of_ble_eq_true rfl) ⟨by decide, by decide⟩ (by decide) ?_
    refine c_J0_charAt hi (by omega) ?_
    show G _ _ _ _ _ _ _ _ _ _ _ _ _
    refine G_i2b (pc := 16) dX6_write_16 nb8 ?_
    refine S_callV (pc := 17) (ci := 6) (d2 := 1) (mc2 := 0) (ms2 := 0) (As := [_]) dX6_write_17 kX6_add lkX6_29 (by assumption) rfl rfl rfl (Nat.le_of_ble_eq_true rfl) ⟨by decide, by decide⟩ (by decide) ?_
    refine c_X6_add W2 (by omega) ?_
    show G _ _ _ _ _ _ _ _ _ _ _ _ _
    refine G_iinc (pc := 20) (ls' := [(2, _), (0, _), (1, _)]) dX6_write_20 rfl (by decide) rfl ?_
    refine G_goto (pc := 23) 2 dX6_write_23 rfl ?_
    rw [ev, setA_setF, setF_setF, setA_putA]
    exact hn
set_option maxRecDepth 100000 in
set_option maxHeartbeats 4000000 in
theorem c_X6_write {g : GC} {sh : SH} {S : SS} {n : Nat} {N : Int} {i : Nat} {Q : Option Value → GA → Nat → Prop} (hi : i < 13) (hW : TaW sh S N) (hm : N + (gStrLen.getD i 0 : Nat) ≤ 160)
    (hq : Q none (hp g sh (setF (putA S 6 (seg N (N + (gStrLen.getD i 0 : Nat)) (fun j => gsc i (j - N)) (S.2.1 6))) 5 1 (N + (gStrLen.getD i 0 : Nat)))) n) : GCall g mX6_write 5 0 0 [gr g 5, .ref (gSK g i)] (hp g sh S) n Q := by
  have hW' := hW
  obtain ⟨h5, q0, q2, q3, h6, h7, h8, e1, hN, hby⟩ := hW'
  refine GCall.of (by decide) (Nat.le_of_ble_eq_true rfl) (ls := [(0, _), (1, _)]) rfl ?_
  refine G_iconst (pc := 0) dX6_write_0 ?_
  refine G_istore_n (pc := 1) (ls' := [(2, _), (0, _), (1, _)]) dX6_write_1 (by decide) rfl ?_
  have := l_X6_write hi hW hm hq (gStrLen.getD i 0) 0 (by omega) (Int.le_refl _)
  rw [Int.add_zero, seg_0, putA_same, show setF S 5 1 N = S by rw [← e1]; exact setF_same] at this
  exact this
set_option maxRecDepth 100000 in
set_option maxHeartbeats 4000000 in
theorem l_X6_skipBlanks {g : GC} {sh : SH} {S0 : SS} {n : Nat} {N e : Int} {Q : Option Value → GA → Nat → Prop} (hW0 : TaW sh S0 N) (hq : Q none (hp g sh (setF S0 5 5 e)) n) : ∀ (k : Nat) (h : Int), N - h ≤ k → (0 ≤ h ∧ h ≤ N) → spn isb (ctB S0 N) 161 h = e → G g mX6_skipBlanks 2 0 0 0 [(0, gr g 5)] [] (hp g sh (setF S0 5 5 h)) n 0 0 Q := by
  have hB := ctB_is hW0
  intro k
  induction k with
  | zero =>
    intro h hk hh he
    have W1 : TaW sh (setF S0 5 5 h) N := TaW_R (TkR_F TkR_rf (by decide)) hW0
    have W1' := W1
    obtain ⟨h5, q0, q2, q3, h6, h7, h8, e1, hN, hby⟩ := W1'
    have e2 : spn isb (ctB S0 N) 161 h = h := spn_at (by rw [hB.2.1 h (by omega)]; decide)
    rw [e2] at he
    subst he
    refine S_aload_n (pc := 0) dX6_skipBlanks_0 rfl ?_
    refine S_getI (pc := 1) dX6_skipBlanks_1 fX6_43 (by assumption) rfl ?_
    rw [setF_at]
    refine S_aload_n (pc := 4) dX6_skipBlanks_4 rfl ?_
    refine S_getI (pc := 5) dX6_skipBlanks_5 fX6_22 (by assumption) rfl ?_
    rw [e1]
    refine G_icmp_ge_t (pc := 8) 50 dX6_skipBlanks_8 rfl (by omega) (by omega) ?_
    refine G_vret (pc := 50) dX6_skipBlanks_50 rfl (by decide) ?_
    exact hq
  | succ k ih =>
    intro h hk hh he
    have W1 : TaW sh (setF S0 5 5 h) N := TaW_R (TkR_F TkR_rf (by decide)) hW0
    have W1' := W1
    obtain ⟨h5, q0, q2, q3, h6, h7, h8, e1, hN, hby⟩ := W1'
    have hcb := cb_B (i := h) hW0
    have ecb : cb (setF S0 5 5 h) N = cb S0 N := cb_R (TkR_F TkR_rf (by decide))
    have hcd := cb_bd (i := h) hW0
    by_cases c : isb (ctB S0 N h) = true
    · have hc := isb_iff.mp c
      have hlt : h < N := by
        by_cases z : N ≤ h
        · have := hB.2.1 h z; omega
        · omega
      have hn := ih (h + 1) (by omega) (by omega) (by rw [← spn_step hB (by decide) hh.1 c]; exact he)
      have e55 : (setF S0 5 5 h).1 5 5 = h := setF_at
      refine S_aload_n (pc := 0) dX6_skipBlanks_0 rfl ?_
      refine S_getI (pc := 1) dX6_skipBlanks_1 fX6_43 (by assumption) rfl ?_
      rw [e55]
      refine S_aload_n (pc := 4) dX6_skipBlanks_4 rfl ?_
      refine S_getI (pc := 5) dX6_skipBlanks_5 fX6_22 (by assumption) rfl ?_
      rw [e1]
      refine G_icmp_ge_f (pc := 8) 50 dX6_skipBlanks_8 rfl (by omega) (by omega) ?_
      refine S_aload_n (pc := 11) dX6_skipBlanks_11 rfl ?_
      refine S_aload_n (pc := 12) dX6_skipBlanks_12 rfl ?_
      refine S_getI (pc := 13) dX6_skipBlanks_13 fX6_43 (by assumption) rfl ?_
      rw [e55]
      refine S_callV (pc := 16) (ci := 6) (d2 := 1) (mc2 := 0) (ms2 := 0) (As := [_]) dX6_skipBlanks_16 kX6_byteAt lkX6_52 (by assumption) rfl rfl rfl (Nat.le_of_ble_eq_true rfl) ⟨by decide, by decide⟩ (by decide) ?_
      refine c_X6_byteAt W1 (by omega) ?_
      rw [ecb]
      show G _ _ _ _ _ _ _ _ _ _ _ _ _
      refine G_bipush (pc := 19) dX6_skipBlanks_19 rfl ?_
      refine G_icmp_eq (pc := 21) 37 dX6_skipBlanks_21 rfl (by omega) (fun c21 => ?_) (fun c21 => ?_)
      · skip
        refine S_aload_n (pc := 37) dX6_skipBlanks_37 rfl ?_
        refine G_dup (pc := 38) dX6_skipBlanks_38 rfl ?_
        refine S_getI (pc := 39) dX6_skipBlanks_39 fX6_43 (by assumption) rfl ?_
        rw [e55]
        refine G_iconst (pc := 42) dX6_skipBlanks_42 ?_
        refine G_iadd (pc := 43) dX6_skipBlanks_43 ?_
        refine S_putI (pc := 44) dX6_skipBlanks_44 fX6_43 (by assumption) rfl ⟨rfl, rfl⟩ ?_
        refine G_goto (pc := 47) 0 dX6_skipBlanks_47 rfl ?_
        rw [setF_setF]
        exact hn
      · skip
        refine S_aload_n (pc := 24) dX6_skipBlanks_24 rfl ?_
        refine S_aload_n (pc := 25) dX6_skipBlanks_25 rfl ?_
        refine S_getI (pc := 26) dX6_skipBlanks_26 fX6_43 (by assumption) rfl ?_
        rw [e55]
        refine S_callV (pc := 29) (ci := 6) (d2 := 1) (mc2 := 0) (ms2 := 0) (As := [_]) dX6_skipBlanks_29 kX6_byteAt lkX6_52 (by assumption) rfl rfl rfl (Nat.le_of_ble_eq_true rfl) ⟨by decide, by decide⟩ (by decide) ?_
        refine c_X6_byteAt W1 (by omega) ?_
        rw [ecb]
        show G _ _ _ _ _ _ _ _ _ _ _ _ _
        refine G_bipush (pc := 32) dX6_skipBlanks_32 rfl ?_
        refine G_icmp_ne (pc := 34) 50 dX6_skipBlanks_34 rfl (by omega) (fun c34 => ?_) (fun c34 => ?_)
        · skip
          exact absurd hc (by omega)
        · skip
          refine S_aload_n (pc := 37) dX6_skipBlanks_37 rfl ?_
          refine G_dup (pc := 38) dX6_skipBlanks_38 rfl ?_
          refine S_getI (pc := 39) dX6_skipBlanks_39 fX6_43 (by assumption) rfl ?_
          rw [e55]
          refine G_iconst (pc := 42) dX6_skipBlanks_42 ?_
          refine G_iadd (pc := 43) dX6_skipBlanks_43 ?_
          refine S_putI (pc := 44) dX6_skipBlanks_44 fX6_43 (by assumption) rfl ⟨rfl, rfl⟩ ?_
          refine G_goto (pc := 47) 0 dX6_skipBlanks_47 rfl ?_
          rw [setF_setF]
          exact hn
    · have hc : ¬ (ctB S0 N h = 32 ∨ ctB S0 N h = 10) := fun z => c (isb_iff.mpr z)
      rw [spn_at c] at he
      subst he
      have e55 : (setF S0 5 5 h).1 5 5 = h := setF_at
      refine S_aload_n (pc := 0) dX6_skipBlanks_0 rfl ?_
      refine S_getI (pc := 1) dX6_skipBlanks_1 fX6_43 (by assumption) rfl ?_
      rw [e55]
      refine S_aload_n (pc := 4) dX6_skipBlanks_4 rfl ?_
      refine S_getI (pc := 5) dX6_skipBlanks_5 fX6_22 (by assumption) rfl ?_
      rw [e1]
      refine G_icmp_ge (pc := 8) 50 dX6_skipBlanks_8 rfl (by omega) (fun c8 => ?_) (fun c8 => ?_)
      · skip
        refine G_vret (pc := 50) dX6_skipBlanks_50 rfl (by decide) ?_
        exact hq
      · skip
        refine S_aload_n (pc := 11) dX6_skipBlanks_11 rfl ?_
        refine S_aload_n (pc := 12) dX6_skipBlanks_12 rfl ?_
        refine S_getI (pc := 13) dX6_skipBlanks_13 fX6_43 (by assumption) rfl ?_
        rw [e55]
        refine S_callV (pc := 16) (ci := 6) (d2 := 1) (mc2 := 0) (ms2 := 0) (As := [_]) dX6_skipBlanks_16 kX6_byteAt lkX6_52 (by assumption) rfl rfl rfl (Nat.le_of_ble_eq_true rfl) ⟨by decide, by decide⟩ (by decide) ?_
        refine c_X6_byteAt W1 (by omega) ?_
        rw [ecb]
        show G _ _ _ _ _ _ _ _ _ _ _ _ _
        refine G_bipush (pc := 19) dX6_skipBlanks_19 rfl ?_
        refine G_icmp_eq_f (pc := 21) 37 dX6_skipBlanks_21 rfl (by omega) (by omega) ?_
        refine S_aload_n (pc := 24) dX6_skipBlanks_24 rfl ?_
        refine S_aload_n (pc := 25) dX6_skipBlanks_25 rfl ?_
        refine S_getI (pc := 26) dX6_skipBlanks_26 fX6_43 (by assumption) rfl ?_
        rw [e55]
        refine S_callV (pc := 29) (ci := 6) (d2 := 1) (mc2 := 0) (ms2 := 0) (As := [_]) dX6_skipBlanks_29 kX6_byteAt lkX6_52 (by assumption) rfl rfl rfl (Nat.le_of_ble_eq_true rfl) ⟨by decide, by decide⟩ (by decide) ?_
        refine c_X6_byteAt W1 (by omega) ?_
        rw [ecb]
        show G _ _ _ _ _ _ _ _ _ _ _ _ _
        refine G_bipush (pc := 32) dX6_skipBlanks_32 rfl ?_
        refine G_icmp_ne_t (pc := 34) 50 dX6_skipBlanks_34 rfl (by omega) (by omega) ?_
        refine G_vret (pc := 50) dX6_skipBlanks_50 rfl (by decide) ?_
        exact hq
set_option maxRecDepth 100000 in
set_option maxHeartbeats 4000000 in
theorem c_X6_skipBlanks {g : GC} {sh : SH} {S : SS} {n : Nat} {N : Int} {h : Int} {Q : Option Value → GA → Nat → Prop} (hW : TaW sh S N) (h55 : S.1 5 5 = h) (hh : 0 ≤ h ∧ h ≤ N) (hq : Q none (hp g sh (setF S 5 5 (spn isb (ctB S N) 161 h))) n) : GCall g mX6_skipBlanks 2 0 0 [gr g 5] (hp g sh S) n Q := by
  refine GCall.of (by decide) (Nat.le_of_ble_eq_true rfl) (ls := [(0, _)]) rfl ?_
  have := l_X6_skipBlanks hW hq (N - h).toNat h (by omega) hh rfl
  rw [show setF S 5 5 h = S by rw [← h55]; exact setF_same] at this
  exact this
/-- the signs of text constant i -/
def gwl (i : Nat) : List Int := (gStrByt.getD i []).map Int32.toInt
theorem spe_iff {B : Int → Int} : ∀ (W : List Int) (h : Int), spe B h W = true ↔ ∀ j : Nat, j < W.length → B (h + j) = W.getD j 0
  | [], h => ⟨fun _ j hj => absurd hj (Nat.not_lt_zero _), fun _ => rfl⟩
  | c :: r, h => by
    have ih := spe_iff (B := B) r (h + 1)
    show (decide (B h = c) && spe B (h + 1) r) = true ↔ _
    rw [Bool.and_eq_true, decide_eq_true_eq, ih]
    constructor
    · rintro ⟨z1, z2⟩ j hj
      cases j with
      | zero =>
        show B (h + ((0 : Nat) : Int)) = c
        rw [show h + ((0 : Nat) : Int) = h by omega]; exact z1
      | succ j =>
        have := z2 j (by rw [List.length_cons] at hj; omega)
        rw [show h + ((j + 1 : Nat) : Int) = h + 1 + j by omega]
        exact this
    · intro z
      refine ⟨?_, fun j hj => ?_⟩
      · have := z 0 (by rw [List.length_cons]; omega)
        rw [show h + ((0 : Nat) : Int) = h by omega] at this
        exact this
      · have := z (j + 1) (by rw [List.length_cons]; omega)
        rw [show h + ((j + 1 : Nat) : Int) = h + 1 + j by omega] at this
        exact this
theorem gwl_at {i j : Nat} (hi : i < 13) : (gwl i).getD j 0 = gsc i j := by
  unfold gwl gsc
  have key : ∀ L : List Int32, (L.map Int32.toInt).getD j 0 = (L.getD j 0).toInt := fun L => by
    rw [List.getD_eq_getElem?_getD, List.getD_eq_getElem?_getD, List.getElem?_map]
    cases L[j]? with
    | none => rfl
    | some x => rfl
  rw [key]
  rfl
theorem gwl_len {i : Nat} (hi : i < 13) : (gwl i).length = gStrLen.getD i 0 := by
  unfold gwl
  rw [List.length_map]
  exact (gStr_len hi).1
set_option maxRecDepth 100000 in
set_option maxHeartbeats 4000000 in
theorem l_X6_spells {g : GC} {sh : SH} {S : SS} {n : Nat} {N : Int} {i : Nat} {fr : Int} {Q : Option Value → GA → Nat → Prop} (hi : i < 13) (hW : TaW sh S N) (hfr : 0 ≤ fr ∧ fr ≤ 160) (h1 : spe (ctB S N) fr (gwl i) = true → Q (some (.int (iI 1))) (hp g sh S) n) (h0 : ¬ spe (ctB S N) fr (gwl i) = true → Q (some (.int (iI 0))) (hp g sh S) n) : ∀ (k j : Nat), j + k = gStrLen.getD i 0 → (∀ x : Nat, x < j → ctB S N (fr + x) = gsc i x) → G g mX6_spells 5 0 0 17 [(3, .int (iI j)), (0, gr g 5), (1, .ref (gSK g i)), (2, .int (iI fr))] [] (hp g sh S) n 0 0 Q := by
  have hW' := hW
  obtain ⟨h5, q0, q2, q3, h6, h7, h8, e1, hN, hby⟩ := hW'
  have hl := gStr_len hi
  have hgl := gwl_len hi
  intro k
  induction k with
  | zero =>
    intro j hj hall
    have hn := h1 ((spe_iff _ _).mpr (fun x hx => by rw [gwl_at hi]; exact hall x (by omega)))
    refine G_iload_n (pc := 17) dX6_spells_17 rfl ?_
    refine G_aload_n (pc := 18) dX6_spells_18 rfl ?_
    refine G_callStr (pc := 19) (d2 := 2) (mc2 := 0) (ms2 := 0) (As := []) (by assumption) dX6_spells_19 kJ0_length_8abf5 lkX6_33 rfl rfl rfl (Nat.le_of_ble_eq_true rfl) ⟨by decide, by decide⟩ (by decide) ?_
    refine c_J0_length hi ?_
    show G _ _ _ _ _ _ _ _ _ _ _ _ _
    refine G_icmp_ge_t (pc := 22) 48 dX6_spells_22 rfl (by omega) (by omega) ?_
    refine G_iconst (pc := 48) dX6_spells_48 ?_
    refine G_zret (pc := 49) dX6_spells_49 rfl nar_z1 (by decide) ?_
    exact hn
  | succ k ih =>
    intro j hj hall
    have hsg := gStr_sgn hi (j := (j : Int)) (by omega)
    have hcb := cb_B (i := fr + j) hW
    have hcd := cb_bd (i := fr + j) hW
    by_cases c : ctB S N (fr + j) = gsc i j
    · have hn := ih (j + 1) (by omega) (fun x hx => by
        by_cases e : x = j
        · rw [e]; exact c
        · exact hall x (by omega))
      refine G_iload_n (pc := 17) dX6_spells_17 rfl ?_
      refine G_aload_n (pc := 18) dX6_spells_18 rfl ?_
      refine G_callStr (pc := 19) (d2 := 2) (mc2 := 0) (ms2 := 0) (As := []) (by assumption) dX6_spells_19 kJ0_length_8abf5 lkX6_33 rfl rfl rfl (Nat.le_of_ble_eq_true rfl) ⟨by decide, by decide⟩ (by decide) ?_
      refine c_J0_length hi ?_
      show G _ _ _ _ _ _ _ _ _ _ _ _ _
      refine G_icmp_ge_f (pc := 22) 48 dX6_spells_22 rfl (by omega) (by omega) ?_
      refine S_aload_n (pc := 25) dX6_spells_25 rfl ?_
      refine G_iload_n (pc := 26) dX6_spells_26 rfl ?_
      refine G_iload_n (pc := 27) dX6_spells_27 rfl ?_
      refine G_iadd (pc := 28) dX6_spells_28 ?_
      refine S_callV (pc := 29) (ci := 6) (d2 := 1) (mc2 := 0) (ms2 := 0) (As := [_]) dX6_spells_29 kX6_byteAt lkX6_52 (by assumption) rfl rfl rfl (Nat.le_of_ble_eq_true rfl) ⟨by decide, by decide⟩ (by decide) ?_
      refine c_X6_byteAt hW (by omega) ?_
      show G _ _ _ _ _ _ _ _ _ _ _ _ _
      refine G_aload_n (pc := 32) dX6_spells_32 rfl ?_
      refine G_iload_n (pc := 33) dX6_spells_33 rfl ?_
      refine G_callStr (pc := 34) (d2 := 4) (mc2 := 0) (ms2 := 0) (As := [_]) (by assumption) dX6_spells_34 kJ0_charAt_5068e lkX6_39 rfl rfl rfl (Nat.le_of_ble_eq_true rfl) ⟨by decide, by decide⟩ (by decide) ?_
      refine c_J0_charAt hi (by omega) ?_
      show G _ _ _ _ _ _ _ _ _ _ _ _ _
      refine G_icmp_eq_t (pc := 37) 42 dX6_spells_37 rfl (by omega) (by omega) ?_
      refine G_iinc (pc := 42) (ls' := [(3, _), (0, _), (1, _), (2, _)]) dX6_spells_42 rfl (by decide) rfl ?_
      refine G_goto (pc := 45) 17 dX6_spells_45 rfl ?_
      exact hn
    · have hn := h0 (fun z => c (by
        have := (spe_iff _ _).mp z j (by omega)
        rw [gwl_at hi] at this
        exact this))
      refine G_iload_n (pc := 17) dX6_spells_17 rfl ?_
      refine G_aload_n (pc := 18) dX6_spells_18 rfl ?_
      refine G_callStr (pc := 19) (d2 := 2) (mc2 := 0) (ms2 := 0) (As := []) (by assumption) dX6_spells_19 kJ0_length_8abf5 lkX6_33 rfl rfl rfl (Nat.le_of_ble_eq_true rfl) ⟨by decide, by decide⟩ (by decide) ?_
      refine c_J0_length hi ?_
      show G _ _ _ _ _ _ _ _ _ _ _ _ _
      refine G_icmp_ge_f (pc := 22) 48 dX6_spells_22 rfl (by omega) (by omega) ?_
      refine S_aload_n (pc := 25) dX6_spells_25 rfl ?_
      refine G_iload_n (pc := 26) dX6_spells_26 rfl ?_
      refine G_iload_n (pc := 27) dX6_spells_27 rfl ?_
      refine G_iadd (pc := 28) dX6_spells_28 ?_
      refine S_callV (pc := 29) (ci := 6) (d2 := 1) (mc2 := 0) (ms2 := 0) (As := [_]) dX6_spells_29 kX6_byteAt lkX6_52 (by assumption) rfl rfl rfl (Nat.le_of_ble_eq_true rfl) ⟨by decide, by decide⟩ (by decide) ?_
      refine c_X6_byteAt hW (by omega) ?_
      show G _ _ _ _ _ _ _ _ _ _ _ _ _
      refine G_aload_n (pc := 32) dX6_spells_32 rfl ?_
      refine G_iload_n (pc := 33) dX6_spells_33 rfl ?_
      refine G_callStr (pc := 34) (d2 := 4) (mc2 := 0) (ms2 := 0) (As := [_]) (by assumption) dX6_spells_34 kJ0_charAt_5068e lkX6_39 rfl rfl rfl (Nat.le_of_ble_eq_true rfl) ⟨by decide, by decide⟩ (by decide) ?_
      refine c_J0_charAt hi (by omega) ?_
      show G _ _ _ _ _ _ _ _ _ _ _ _ _
      refine G_icmp_eq_f (pc := 37) 42 dX6_spells_37 rfl (by omega) (by omega) ?_
      refine G_iconst (pc := 40) dX6_spells_40 ?_
      refine G_zret (pc := 41) dX6_spells_41 rfl nar_z0 (by decide) ?_
      exact hn
set_option maxRecDepth 100000 in
set_option maxHeartbeats 4000000 in
theorem c_X6_spells {g : GC} {sh : SH} {S : SS} {n : Nat} {N : Int} {i : Nat} {fr nx : Int} {W : List Int} {Q : Option Value → GA → Nat → Prop} (hi : i < 13) (hwl : gwl i = W) (hW : TaW sh S N) (h55 : S.1 5 5 = nx) (hfr : 0 ≤ fr ∧ fr ≤ nx ∧ nx ≤ 160) (h1 : spl (ctB S N) fr (nx - fr) W = true → Q (some (.int (iI 1))) (hp g sh S) n) (h0 : ¬ spl (ctB S N) fr (nx - fr) W = true → Q (some (.int (iI 0))) (hp g sh S) n) : GCall g mX6_spells 5 0 0 [gr g 5, .ref (gSK g i), .int (iI fr)] (hp g sh S) n Q := by
  have hW' := hW
  obtain ⟨h5, q0, q2, q3, h6, h7, h8, e1, hN, hby⟩ := hW'
  subst hwl
  have hl := gStr_len hi
  have hgl := gwl_len hi
  unfold spl at h1 h0
  rw [Bool.and_eq_true, decide_eq_true_eq, hgl] at h1 h0
  refine GCall.of (by decide) (Nat.le_of_ble_eq_true rfl) (ls := [(0, _), (1, _), (2, _)]) rfl ?_
  refine S_aload_n (pc := 0) dX6_spells_0 rfl ?_
  refine S_getI (pc := 1) dX6_spells_1 fX6_43 (by assumption) rfl ?_
  rw [h55]
  refine G_iload_n (pc := 4) dX6_spells_4 rfl ?_
  refine G_isub (pc := 5) dX6_spells_5 ?_
  refine G_aload_n (pc := 6) dX6_spells_6 rfl ?_
  refine G_callStr (pc := 7) (d2 := 2) (mc2 := 0) (ms2 := 0) (As := []) (by assumption) dX6_spells_7 kJ0_length_8abf5 lkX6_33 rfl rfl rfl (Nat.le_of_ble_eq_true rfl) ⟨by decide, by decide⟩ (by decide) ?_
  refine c_J0_length hi ?_
  show G _ _ _ _ _ _ _ _ _ _ _ _ _
  refine G_icmp_eq (pc := 10) 15 dX6_spells_10 rfl (by omega) (fun c10 => ?_) (fun c10 => ?_)
  · skip
    refine G_iconst (pc := 15) dX6_spells_15 ?_
    refine G_istore_n (pc := 16) (ls' := [(3, _), (0, _), (1, _), (2, _)]) dX6_spells_16 (by decide) rfl ?_
    exact l_X6_spells hi hW (by omega) (fun z => h1 ⟨by omega, z⟩) (fun z => h0 (fun y => z y.2)) (gStrLen.getD i 0) 0 (by omega) (fun x hx => absurd hx (Nat.not_lt_zero _))
  · skip
    refine G_iconst (pc := 13) dX6_spells_13 ?_
    refine G_zret (pc := 14) dX6_spells_14 rfl nar_z0 (by decide) ?_
    exact h0 (fun z => by omega)
set_option maxRecDepth 100000 in
set_option maxHeartbeats 4000000 in
theorem c_X6_keyOrName {g : GC} {sh : SH} {S : SS} {n : Nat} {N : Int} {fr nx : Int} {Q : Option Value → GA → Nat → Prop} (hW : TaW sh S N) (h55 : S.1 5 5 = nx) (hfr : 0 ≤ fr ∧ fr ≤ nx ∧ nx ≤ 160) (hq : Q (some (.int (iI (kon (ctB S N) fr (nx - fr))))) (hp g sh S) n) : GCall g mX6_keyOrName 6 0 0 [gr g 5, .int (iI fr)] (hp g sh S) n Q := by
  have hW' := hW
  obtain ⟨h5, q0, q2, q3, h6, h7, h8, e1, hN, hby⟩ := hW'
  unfold kon at hq
  have hi1 : 1 < 13 := by decide
  have hi2 : 2 < 13 := by decide
  have hi3 : 3 < 13 := by decide
  have hi4 : 4 < 13 := by decide
  have hi5 : 5 < 13 := by decide
  have hi6 : 6 < 13 := by decide
  have hi7 : 7 < 13 := by decide
  have hi8 : 8 < 13 := by decide
  have hi9 : 9 < 13 := by decide
  have hi10 : 10 < 13 := by decide
  have hi11 : 11 < 13 := by decide
  have hi12 : 12 < 13 := by decide
  refine GCall.of (by decide) (Nat.le_of_ble_eq_true rfl) (ls := [(0, _), (1, _)]) rfl ?_
  refine S_aload_n (pc := 0) dX6_keyOrName_0 rfl ?_
  refine G_ldcS (pc := 1) (i := 1) dX6_keyOrName_1 rfl ?_
  refine G_iload_n (pc := 3) dX6_keyOrName_3 rfl ?_
  refine S_callV (pc := 4) (ci := 6) (d2 := 5) (mc2 := 0) (ms2 := 0) (As := [_, _]) dX6_keyOrName_4 kX6_spells lkX6_77 (by assumption) rfl rfl rfl (Nat.le_of_ble_eq_true rfl) ⟨by decide, by decide⟩ (by decide) ?_
  refine c_X6_spells (W := [112, 108, 97, 105, 110]) hi1 (by decide) hW h55 hfr (fun z0 => ?_) (fun z0 => ?_)
  · show G _ _ _ _ _ _ _ _ _ _ _ _ _
    refine G_if_eq_f (pc := 7) 14 dX6_keyOrName_7 rfl (by decide) (by decide) ?_
    refine G_sipush (pc := 10) dX6_keyOrName_10 rfl ?_
    refine G_iret (pc := 13) dX6_keyOrName_13 rfl (by decide) ?_
    rw [if_pos z0] at hq
    exact hq
  · show G _ _ _ _ _ _ _ _ _ _ _ _ _
    refine G_if_eq_t (pc := 7) 14 dX6_keyOrName_7 rfl (by decide) (by decide) ?_
    refine S_aload_n (pc := 14) dX6_keyOrName_14 rfl ?_
    refine G_ldcS (pc := 15) (i := 2) dX6_keyOrName_15 rfl ?_
    refine G_iload_n (pc := 17) dX6_keyOrName_17 rfl ?_
    refine S_callV (pc := 18) (ci := 6) (d2 := 5) (mc2 := 0) (ms2 := 0) (As := [_, _]) dX6_keyOrName_18 kX6_spells lkX6_77 (by assumption) rfl rfl rfl (Nat.le_of_ble_eq_true rfl) ⟨by decide, by decide⟩ (by decide) ?_
    refine c_X6_spells (W := [115, 112, 108, 105, 116]) hi2 (by decide) hW h55 hfr (fun z1 => ?_) (fun z1 => ?_)
    · show G _ _ _ _ _ _ _ _ _ _ _ _ _
      refine G_if_eq_f (pc := 21) 28 dX6_keyOrName_21 rfl (by decide) (by decide) ?_
      refine G_sipush (pc := 24) dX6_keyOrName_24 rfl ?_
      refine G_iret (pc := 27) dX6_keyOrName_27 rfl (by decide) ?_
      rw [if_neg z0, if_pos z1] at hq
      exact hq
    · show G _ _ _ _ _ _ _ _ _ _ _ _ _
      refine G_if_eq_t (pc := 21) 28 dX6_keyOrName_21 rfl (by decide) (by decide) ?_
      refine S_aload_n (pc := 28) dX6_keyOrName_28 rfl ?_
      refine G_ldcS (pc := 29) (i := 3) dX6_keyOrName_29 rfl ?_
      refine G_iload_n (pc := 31) dX6_keyOrName_31 rfl ?_
      refine S_callV (pc := 32) (ci := 6) (d2 := 5) (mc2 := 0) (ms2 := 0) (As := [_, _]) dX6_keyOrName_32 kX6_spells lkX6_77 (by assumption) rfl rfl rfl (Nat.le_of_ble_eq_true rfl) ⟨by decide, by decide⟩ (by decide) ?_
      refine c_X6_spells (W := [116, 117, 114, 110]) hi3 (by decide) hW h55 hfr (fun z2 => ?_) (fun z2 => ?_)
      · show G _ _ _ _ _ _ _ _ _ _ _ _ _
        refine G_if_eq_f (pc := 35) 42 dX6_keyOrName_35 rfl (by decide) (by decide) ?_
        refine G_sipush (pc := 38) dX6_keyOrName_38 rfl ?_
        refine G_iret (pc := 41) dX6_keyOrName_41 rfl (by decide) ?_
        rw [if_neg z0, if_neg z1, if_pos z2] at hq
        exact hq
      · show G _ _ _ _ _ _ _ _ _ _ _ _ _
        refine G_if_eq_t (pc := 35) 42 dX6_keyOrName_35 rfl (by decide) (by decide) ?_
        refine S_aload_n (pc := 42) dX6_keyOrName_42 rfl ?_
        refine G_ldcS (pc := 43) (i := 4) dX6_keyOrName_43 rfl ?_
        refine G_iload_n (pc := 45) dX6_keyOrName_45 rfl ?_
        refine S_callV (pc := 46) (ci := 6) (d2 := 5) (mc2 := 0) (ms2 := 0) (As := [_, _]) dX6_keyOrName_46 kX6_spells lkX6_77 (by assumption) rfl rfl rfl (Nat.le_of_ble_eq_true rfl) ⟨by decide, by decide⟩ (by decide) ?_
        refine c_X6_spells (W := [111, 114]) hi4 (by decide) hW h55 hfr (fun z3 => ?_) (fun z3 => ?_)
        · show G _ _ _ _ _ _ _ _ _ _ _ _ _
          refine G_if_eq_f (pc := 49) 56 dX6_keyOrName_49 rfl (by decide) (by decide) ?_
          refine G_sipush (pc := 52) dX6_keyOrName_52 rfl ?_
          refine G_iret (pc := 55) dX6_keyOrName_55 rfl (by decide) ?_
          rw [if_neg z0, if_neg z1, if_neg z2, if_pos z3] at hq
          exact hq
        · show G _ _ _ _ _ _ _ _ _ _ _ _ _
          refine G_if_eq_t (pc := 49) 56 dX6_keyOrName_49 rfl (by decide) (by decide) ?_
          refine S_aload_n (pc := 56) dX6_keyOrName_56 rfl ?_
          refine G_ldcS (pc := 57) (i := 5) dX6_keyOrName_57 rfl ?_
          refine G_iload_n (pc := 59) dX6_keyOrName_59 rfl ?_
          refine S_callV (pc := 60) (ci := 6) (d2 := 5) (mc2 := 0) (ms2 := 0) (As := [_, _]) dX6_keyOrName_60 kX6_spells lkX6_77 (by assumption) rfl rfl rfl (Nat.le_of_ble_eq_true rfl) ⟨by decide, by decide⟩ (by decide) ?_
          refine c_X6_spells (W := [97, 110, 100]) hi5 (by decide) hW h55 hfr (fun z4 => ?_) (fun z4 => ?_)
          · show G _ _ _ _ _ _ _ _ _ _ _ _ _
            refine G_if_eq_f (pc := 63) 70 dX6_keyOrName_63 rfl (by decide) (by decide) ?_
            refine G_sipush (pc := 66) dX6_keyOrName_66 rfl ?_
            refine G_iret (pc := 69) dX6_keyOrName_69 rfl (by decide) ?_
            rw [if_neg z0, if_neg z1, if_neg z2, if_neg z3, if_pos z4] at hq
            exact hq
          · show G _ _ _ _ _ _ _ _ _ _ _ _ _
            refine G_if_eq_t (pc := 63) 70 dX6_keyOrName_63 rfl (by decide) (by decide) ?_
            refine S_aload_n (pc := 70) dX6_keyOrName_70 rfl ?_
            refine G_ldcS (pc := 71) (i := 6) dX6_keyOrName_71 rfl ?_
            refine G_iload_n (pc := 73) dX6_keyOrName_73 rfl ?_
            refine S_callV (pc := 74) (ci := 6) (d2 := 5) (mc2 := 0) (ms2 := 0) (As := [_, _]) dX6_keyOrName_74 kX6_spells lkX6_77 (by assumption) rfl rfl rfl (Nat.le_of_ble_eq_true rfl) ⟨by decide, by decide⟩ (by decide) ?_
            refine c_X6_spells (W := [110, 111, 116]) hi6 (by decide) hW h55 hfr (fun z5 => ?_) (fun z5 => ?_)
            · show G _ _ _ _ _ _ _ _ _ _ _ _ _
              refine G_if_eq_f (pc := 77) 84 dX6_keyOrName_77 rfl (by decide) (by decide) ?_
              refine G_sipush (pc := 80) dX6_keyOrName_80 rfl ?_
              refine G_iret (pc := 83) dX6_keyOrName_83 rfl (by decide) ?_
              rw [if_neg z0, if_neg z1, if_neg z2, if_neg z3, if_neg z4, if_pos z5] at hq
              exact hq
            · show G _ _ _ _ _ _ _ _ _ _ _ _ _
              refine G_if_eq_t (pc := 77) 84 dX6_keyOrName_77 rfl (by decide) (by decide) ?_
              refine S_aload_n (pc := 84) dX6_keyOrName_84 rfl ?_
              refine G_ldcS (pc := 85) (i := 7) dX6_keyOrName_85 rfl ?_
              refine G_iload_n (pc := 87) dX6_keyOrName_87 rfl ?_
              refine S_callV (pc := 88) (ci := 6) (d2 := 5) (mc2 := 0) (ms2 := 0) (As := [_, _]) dX6_keyOrName_88 kX6_spells lkX6_77 (by assumption) rfl rfl rfl (Nat.le_of_ble_eq_true rfl) ⟨by decide, by decide⟩ (by decide) ?_
              refine c_X6_spells (W := [110]) hi7 (by decide) hW h55 hfr (fun z6 => ?_) (fun z6 => ?_)
              · show G _ _ _ _ _ _ _ _ _ _ _ _ _
                refine G_if_eq_f (pc := 91) 98 dX6_keyOrName_91 rfl (by decide) (by decide) ?_
                refine G_sipush (pc := 94) dX6_keyOrName_94 rfl ?_
                refine G_iret (pc := 97) dX6_keyOrName_97 rfl (by decide) ?_
                rw [if_neg z0, if_neg z1, if_neg z2, if_neg z3, if_neg z4, if_neg z5, if_pos z6] at hq
                exact hq
              · show G _ _ _ _ _ _ _ _ _ _ _ _ _
                refine G_if_eq_t (pc := 91) 98 dX6_keyOrName_91 rfl (by decide) (by decide) ?_
                refine S_aload_n (pc := 98) dX6_keyOrName_98 rfl ?_
                refine G_ldcS (pc := 99) (i := 8) dX6_keyOrName_99 rfl ?_
                refine G_iload_n (pc := 101) dX6_keyOrName_101 rfl ?_
                refine S_callV (pc := 102) (ci := 6) (d2 := 5) (mc2 := 0) (ms2 := 0) (As := [_, _]) dX6_keyOrName_102 kX6_spells lkX6_77 (by assumption) rfl rfl rfl (Nat.le_of_ble_eq_true rfl) ⟨by decide, by decide⟩ (by decide) ?_
                refine c_X6_spells (W := [109]) hi8 (by decide) hW h55 hfr (fun z7 => ?_) (fun z7 => ?_)
                · show G _ _ _ _ _ _ _ _ _ _ _ _ _
                  refine G_if_eq_f (pc := 105) 112 dX6_keyOrName_105 rfl (by decide) (by decide) ?_
                  refine G_sipush (pc := 108) dX6_keyOrName_108 rfl ?_
                  refine G_iret (pc := 111) dX6_keyOrName_111 rfl (by decide) ?_
                  rw [if_neg z0, if_neg z1, if_neg z2, if_neg z3, if_neg z4, if_neg z5, if_neg z6, if_pos z7] at hq
                  exact hq
                · show G _ _ _ _ _ _ _ _ _ _ _ _ _
                  refine G_if_eq_t (pc := 105) 112 dX6_keyOrName_105 rfl (by decide) (by decide) ?_
                  refine S_aload_n (pc := 112) dX6_keyOrName_112 rfl ?_
                  refine G_ldcS (pc := 113) (i := 9) dX6_keyOrName_113 rfl ?_
                  refine G_iload_n (pc := 115) dX6_keyOrName_115 rfl ?_
                  refine S_callV (pc := 116) (ci := 6) (d2 := 5) (mc2 := 0) (ms2 := 0) (As := [_, _]) dX6_keyOrName_116 kX6_spells lkX6_77 (by assumption) rfl rfl rfl (Nat.le_of_ble_eq_true rfl) ⟨by decide, by decide⟩ (by decide) ?_
                  refine c_X6_spells (W := [115, 105, 122, 101]) hi9 (by decide) hW h55 hfr (fun z8 => ?_) (fun z8 => ?_)
                  · show G _ _ _ _ _ _ _ _ _ _ _ _ _
                    refine G_if_eq_f (pc := 119) 126 dX6_keyOrName_119 rfl (by decide) (by decide) ?_
                    refine G_sipush (pc := 122) dX6_keyOrName_122 rfl ?_
                    refine G_iret (pc := 125) dX6_keyOrName_125 rfl (by decide) ?_
                    rw [if_neg z0, if_neg z1, if_neg z2, if_neg z3, if_neg z4, if_neg z5, if_neg z6, if_neg z7, if_pos z8] at hq
                    exact hq
                  · show G _ _ _ _ _ _ _ _ _ _ _ _ _
                    refine G_if_eq_t (pc := 119) 126 dX6_keyOrName_119 rfl (by decide) (by decide) ?_
                    refine S_aload_n (pc := 126) dX6_keyOrName_126 rfl ?_
                    refine G_ldcS (pc := 127) (i := 10) dX6_keyOrName_127 rfl ?_
                    refine G_iload_n (pc := 129) dX6_keyOrName_129 rfl ?_
                    refine S_callV (pc := 130) (ci := 6) (d2 := 5) (mc2 := 0) (ms2 := 0) (As := [_, _]) dX6_keyOrName_130 kX6_spells lkX6_77 (by assumption) rfl rfl rfl (Nat.le_of_ble_eq_true rfl) ⟨by decide, by decide⟩ (by decide) ?_
                    refine c_X6_spells (W := [99, 117, 116]) hi10 (by decide) hW h55 hfr (fun z9 => ?_) (fun z9 => ?_)
                    · show G _ _ _ _ _ _ _ _ _ _ _ _ _
                      refine G_if_eq_f (pc := 133) 140 dX6_keyOrName_133 rfl (by decide) (by decide) ?_
                      refine G_sipush (pc := 136) dX6_keyOrName_136 rfl ?_
                      refine G_iret (pc := 139) dX6_keyOrName_139 rfl (by decide) ?_
                      rw [if_neg z0, if_neg z1, if_neg z2, if_neg z3, if_neg z4, if_neg z5, if_neg z6, if_neg z7, if_neg z8, if_pos z9] at hq
                      exact hq
                    · show G _ _ _ _ _ _ _ _ _ _ _ _ _
                      refine G_if_eq_t (pc := 133) 140 dX6_keyOrName_133 rfl (by decide) (by decide) ?_
                      refine S_aload_n (pc := 140) dX6_keyOrName_140 rfl ?_
                      refine G_ldcS (pc := 141) (i := 11) dX6_keyOrName_141 rfl ?_
                      refine G_iload_n (pc := 143) dX6_keyOrName_143 rfl ?_
                      refine S_callV (pc := 144) (ci := 6) (d2 := 5) (mc2 := 0) (ms2 := 0) (As := [_, _]) dX6_keyOrName_144 kX6_spells lkX6_77 (by assumption) rfl rfl rfl (Nat.le_of_ble_eq_true rfl) ⟨by decide, by decide⟩ (by decide) ?_
                      refine c_X6_spells (W := [107, 105, 110, 100]) hi11 (by decide) hW h55 hfr (fun z10 => ?_) (fun z10 => ?_)
                      · show G _ _ _ _ _ _ _ _ _ _ _ _ _
                        refine G_if_eq_f (pc := 147) 154 dX6_keyOrName_147 rfl (by decide) (by decide) ?_
                        refine G_sipush (pc := 150) dX6_keyOrName_150 rfl ?_
                        refine G_iret (pc := 153) dX6_keyOrName_153 rfl (by decide) ?_
                        rw [if_neg z0, if_neg z1, if_neg z2, if_neg z3, if_neg z4, if_neg z5, if_neg z6, if_neg z7, if_neg z8, if_neg z9, if_pos z10] at hq
                        exact hq
                      · show G _ _ _ _ _ _ _ _ _ _ _ _ _
                        refine G_if_eq_t (pc := 147) 154 dX6_keyOrName_147 rfl (by decide) (by decide) ?_
                        refine S_aload_n (pc := 154) dX6_keyOrName_154 rfl ?_
                        refine G_ldcS (pc := 155) (i := 12) dX6_keyOrName_155 rfl ?_
                        refine G_iload_n (pc := 157) dX6_keyOrName_157 rfl ?_
                        refine S_callV (pc := 158) (ci := 6) (d2 := 5) (mc2 := 0) (ms2 := 0) (As := [_, _]) dX6_keyOrName_158 kX6_spells lkX6_77 (by assumption) rfl rfl rfl (Nat.le_of_ble_eq_true rfl) ⟨by decide, by decide⟩ (by decide) ?_
                        refine c_X6_spells (W := [115, 97, 109, 101]) hi12 (by decide) hW h55 hfr (fun z11 => ?_) (fun z11 => ?_)
                        · show G _ _ _ _ _ _ _ _ _ _ _ _ _
                          refine G_if_eq_f (pc := 161) 168 dX6_keyOrName_161 rfl (by decide) (by decide) ?_
                          refine G_sipush (pc := 164) dX6_keyOrName_164 rfl ?_
                          refine G_iret (pc := 167) dX6_keyOrName_167 rfl (by decide) ?_
                          rw [if_neg z0, if_neg z1, if_neg z2, if_neg z3, if_neg z4, if_neg z5, if_neg z6, if_neg z7, if_neg z8, if_neg z9, if_neg z10, if_pos z11] at hq
                          exact hq
                        · show G _ _ _ _ _ _ _ _ _ _ _ _ _
                          refine G_if_eq_t (pc := 161) 168 dX6_keyOrName_161 rfl (by decide) (by decide) ?_
                          refine G_sipush (pc := 168) dX6_keyOrName_168 rfl ?_
                          refine G_iret (pc := 171) dX6_keyOrName_171 rfl (by decide) ?_
                          rw [if_neg z0, if_neg z1, if_neg z2, if_neg z3, if_neg z4, if_neg z5, if_neg z6, if_neg z7, if_neg z8, if_neg z9, if_neg z10, if_neg z11] at hq
                          exact hq
set_option maxRecDepth 100000 in
set_option maxHeartbeats 4000000 in
theorem l_X6_readWord {g : GC} {sh : SH} {S0 : SS} {n : Nat} {N e fr : Int} {Q : Option Value → GA → Nat → Prop} (hW0 : TaW sh S0 N) (K : G g mX6_readWord 7 0 0 43 [(1, .int (iI fr)), (0, gr g 5)] [] (hp g sh (setF S0 5 5 e)) n 0 0 Q) : ∀ (k : Nat) (h : Int), N - h ≤ k → (0 ≤ h ∧ h ≤ N) → spn isl (ctB S0 N) 161 h = e → G g mX6_readWord 7 0 0 5 [(1, .int (iI fr)), (0, gr g 5)] [] (hp g sh (setF S0 5 5 h)) n 0 0 Q := by
  have hB := ctB_is hW0
  intro k
  induction k with
  | zero =>
    intro h hk hh he
    have W1 : TaW sh (setF S0 5 5 h) N := TaW_R (TkR_F TkR_rf (by decide)) hW0
    have W1' := W1
    obtain ⟨h5, q0, q2, q3, h6, h7, h8, e1, hN, hby⟩ := W1'
    have e2 : spn isl (ctB S0 N) 161 h = h := spn_at (by rw [hB.2.1 h (by omega)]; decide)
    rw [e2] at he
    subst he
    refine S_aload_n (pc := 5) dX6_readWord_5 rfl ?_
    refine S_getI (pc := 6) dX6_readWord_6 fX6_43 (by assumption) rfl ?_
    rw [setF_at]
    refine S_aload_n (pc := 9) dX6_readWord_9 rfl ?_
    refine S_getI (pc := 10) dX6_readWord_10 fX6_22 (by assumption) rfl ?_
    rw [e1]
    refine G_icmp_ge_t (pc := 13) 43 dX6_readWord_13 rfl (by omega) (by omega) ?_
    exact K
  | succ k ih =>
    intro h hk hh he
    have W1 : TaW sh (setF S0 5 5 h) N := TaW_R (TkR_F TkR_rf (by decide)) hW0
    have W1' := W1
    obtain ⟨h5, q0, q2, q3, h6, h7, h8, e1, hN, hby⟩ := W1'
    have hcb := cb_B (i := h) hW0
    have ecb : cb (setF S0 5 5 h) N = cb S0 N := cb_R (TkR_F TkR_rf (by decide))
    have hcd := cb_bd (i := h) hW0
    have e55 : (setF S0 5 5 h).1 5 5 = h := setF_at
    by_cases c : isl (ctB S0 N h) = true
    · have hc := isl_iff.mp c
      have hlt : h < N := by
        by_cases z : N ≤ h
        · have := hB.2.1 h z; omega
        · omega
      have hn := ih (h + 1) (by omega) (by omega) (by rw [← spn_step hB (by decide) hh.1 c]; exact he)
      refine S_aload_n (pc := 5) dX6_readWord_5 rfl ?_
      refine S_getI (pc := 6) dX6_readWord_6 fX6_43 (by assumption) rfl ?_
      rw [e55]
      refine S_aload_n (pc := 9) dX6_readWord_9 rfl ?_
      refine S_getI (pc := 10) dX6_readWord_10 fX6_22 (by assumption) rfl ?_
      rw [e1]
      refine G_icmp_ge_f (pc := 13) 43 dX6_readWord_13 rfl (by omega) (by omega) ?_
      refine S_aload_n (pc := 16) dX6_readWord_16 rfl ?_
      refine S_aload_n (pc := 17) dX6_readWord_17 rfl ?_
      refine S_getI (pc := 18) dX6_readWord_18 fX6_43 (by assumption) rfl ?_
      rw [e55]
      refine S_callV (pc := 21) (ci := 6) (d2 := 1) (mc2 := 0) (ms2 := 0) (As := [_]) dX6_readWord_21 kX6_byteAt lkX6_52 (by assumption) rfl rfl rfl (Nat.le_of_ble_eq_true rfl) ⟨by decide, by decide⟩ (by decide) ?_
      refine c_X6_byteAt W1 (by omega) ?_
      rw [ecb]
      show G _ _ _ _ _ _ _ _ _ _ _ _ _
      refine G_callS (pc := 24) (d2 := 1) (mc2 := 0) (ms2 := 0) (As := [_]) dX6_readWord_24 kX6_isLetter lkX6_56 rfl rfl (Nat.le_of_ble_eq_true rfl) ⟨by decide, by decide⟩ (by decide) ?_
      refine c_X6_isLetter (by omega) (fun _ => ?_) (fun z => absurd (by omega) z)
      · show G _ _ _ _ _ _ _ _ _ _ _ _ _
        refine G_if_eq_f (pc := 27) 43 dX6_readWord_27 rfl (by decide) (by decide) ?_
        refine S_aload_n (pc := 30) dX6_readWord_30 rfl ?_
        refine G_dup (pc := 31) dX6_readWord_31 rfl ?_
        refine S_getI (pc := 32) dX6_readWord_32 fX6_43 (by assumption) rfl ?_
        rw [e55]
        refine G_iconst (pc := 35) dX6_readWord_35 ?_
        refine G_iadd (pc := 36) dX6_readWord_36 ?_
        refine S_putI (pc := 37) dX6_readWord_37 fX6_43 (by assumption) rfl ⟨rfl, rfl⟩ ?_
        refine G_goto (pc := 40) 5 dX6_readWord_40 rfl ?_
        rw [setF_setF]
        exact hn
    · have hc : ¬ (97 ≤ ctB S0 N h ∧ ctB S0 N h ≤ 122) := fun z => c (isl_iff.mpr z)
      rw [spn_at c] at he
      subst he
      refine S_aload_n (pc := 5) dX6_readWord_5 rfl ?_
      refine S_getI (pc := 6) dX6_readWord_6 fX6_43 (by assumption) rfl ?_
      rw [e55]
      refine S_aload_n (pc := 9) dX6_readWord_9 rfl ?_
      refine S_getI (pc := 10) dX6_readWord_10 fX6_22 (by assumption) rfl ?_
      rw [e1]
      refine G_icmp_ge (pc := 13) 43 dX6_readWord_13 rfl (by omega) (fun c13 => ?_) (fun c13 => ?_)
      · skip
        exact K
      · skip
        refine S_aload_n (pc := 16) dX6_readWord_16 rfl ?_
        refine S_aload_n (pc := 17) dX6_readWord_17 rfl ?_
        refine S_getI (pc := 18) dX6_readWord_18 fX6_43 (by assumption) rfl ?_
        rw [e55]
        refine S_callV (pc := 21) (ci := 6) (d2 := 1) (mc2 := 0) (ms2 := 0) (As := [_]) dX6_readWord_21 kX6_byteAt lkX6_52 (by assumption) rfl rfl rfl (Nat.le_of_ble_eq_true rfl) ⟨by decide, by decide⟩ (by decide) ?_
        refine c_X6_byteAt W1 (by omega) ?_
        rw [ecb]
        show G _ _ _ _ _ _ _ _ _ _ _ _ _
        refine G_callS (pc := 24) (d2 := 1) (mc2 := 0) (ms2 := 0) (As := [_]) dX6_readWord_24 kX6_isLetter lkX6_56 rfl rfl (Nat.le_of_ble_eq_true rfl) ⟨by decide, by decide⟩ (by decide) ?_
        refine c_X6_isLetter (by omega) (fun z => absurd z (by omega)) (fun _ => ?_)
        · show G _ _ _ _ _ _ _ _ _ _ _ _ _
          refine G_if_eq_t (pc := 27) 43 dX6_readWord_27 rfl (by decide) (by decide) ?_
          exact K
set_option maxRecDepth 100000 in
set_option maxHeartbeats 4000000 in
theorem c_X6_readWord {g : GC} {sh : SH} {S : SS} {n : Nat} {N : Int} {h : Int} {Q : Option Value → GA → Nat → Prop} (hW : TaW sh S N) (h55 : S.1 5 5 = h) (hh : 0 ≤ h ∧ h ≤ N) (hq : Q (some (.int (iI (kon (ctB S N) h (spn isl (ctB S N) 161 h - h))))) (hp g sh (setF S 5 5 (spn isl (ctB S N) 161 h))) n) : GCall g mX6_readWord 7 0 0 [gr g 5] (hp g sh S) n Q := by
  have hW' := hW
  obtain ⟨h5, q0, q2, q3, h6, h7, h8, e1, hN, hby⟩ := hW'
  have hB := ctB_is hW
  have g1 := spn_ge (P := isl) (B := ctB S N) 161 h
  have g2 := spn_le hB (P := isl) (by decide) 161 h hh.2
  have W1 : TaW sh (setF S 5 5 (spn isl (ctB S N) 161 h)) N := TaW_R (TkR_F TkR_rf (by decide)) hW
  have eB : ctB (setF S 5 5 (spn isl (ctB S N) 161 h)) N = ctB S N := ctB_R (TkR_F TkR_rf (by decide))
  have K : G g mX6_readWord 7 0 0 43 [(1, .int (iI h)), (0, gr g 5)] [] (hp g sh (setF S 5 5 (spn isl (ctB S N) 161 h))) n 0 0 Q := by
    refine S_aload_n (pc := 43) dX6_readWord_43 rfl ?_
    refine G_iload_n (pc := 44) dX6_readWord_44 rfl ?_
    refine S_callV (pc := 45) (ci := 6) (d2 := 6) (mc2 := 0) (ms2 := 0) (As := [_]) dX6_readWord_45 kX6_keyOrName lkX6_72 (by assumption) rfl rfl rfl (Nat.le_of_ble_eq_true rfl) ⟨by decide, by decide⟩ (by decide) ?_
    refine c_X6_keyOrName W1 setF_at (by omega) ?_
    rw [eB]
    show G _ _ _ _ _ _ _ _ _ _ _ _ _
    refine G_iret (pc := 48) dX6_readWord_48 rfl (by decide) ?_
    exact hq
  refine GCall.of (by decide) (Nat.le_of_ble_eq_true rfl) (ls := [(0, _)]) rfl ?_
  have := l_X6_readWord hW K (N - h).toNat h (by omega) hh rfl
  rw [show setF S 5 5 h = S by rw [← h55]; exact setF_same] at this
  refine S_aload_n (pc := 0) dX6_readWord_0 rfl ?_
  refine S_getI (pc := 1) dX6_readWord_1 fX6_43 (by assumption) rfl ?_
  rw [h55]
  refine G_istore_n (pc := 4) (ls' := [(1, _), (0, _)]) dX6_readWord_4 (by decide) rfl ?_
  exact this
set_option maxRecDepth 100000 in
set_option maxHeartbeats 4000000 in
theorem l_X6_readNumber {g : GC} {sh : SH} {S0 : SS} {n : Nat} {N e fr : Int} {Q : Option Value → GA → Nat → Prop} (hW0 : TaW sh S0 N) (hfr : 0 ≤ fr) (K : ∀ m : Nat, fr + m = e → G g mX6_readNumber 2 0 0 62 [(2, .int (iI (nmb (ctB S0 N) fr m))), (1, .int (iI fr)), (0, gr g 5)] [] (hp g sh (setF S0 5 5 e)) n 0 0 Q) : ∀ (k m : Nat), N - (fr + m) ≤ k → fr + m ≤ N → spn isd (ctB S0 N) 161 (fr + m) = e → G g mX6_readNumber 2 0 0 7 [(2, .int (iI (nmb (ctB S0 N) fr m))), (1, .int (iI fr)), (0, gr g 5)] [] (hp g sh (setF S0 5 5 (fr + m))) n 0 0 Q := by
  have hB := ctB_is hW0
  intro k
  induction k with
  | zero =>
    intro m hk hh he
    have W1 : TaW sh (setF S0 5 5 (fr + m)) N := TaW_R (TkR_F TkR_rf (by decide)) hW0
    have W1' := W1
    obtain ⟨h5, q0, q2, q3, h6, h7, h8, e1, hN, hby⟩ := W1'
    have e2 : spn isd (ctB S0 N) 161 (fr + m) = fr + m := spn_at (by rw [hB.2.1 _ (by omega)]; decide)
    rw [e2] at he
    have hk2 := K m he
    rw [← he] at hk2
    refine S_aload_n (pc := 7) dX6_readNumber_7 rfl ?_
    refine S_getI (pc := 8) dX6_readNumber_8 fX6_43 (by assumption) rfl ?_
    rw [setF_at]
    refine S_aload_n (pc := 11) dX6_readNumber_11 rfl ?_
    refine S_getI (pc := 12) dX6_readNumber_12 fX6_22 (by assumption) rfl ?_
    rw [e1]
    refine G_icmp_ge_t (pc := 15) 62 dX6_readNumber_15 rfl (by omega) (by omega) ?_
    exact hk2
  | succ k ih =>
    intro m hk hh he
    have W1 : TaW sh (setF S0 5 5 (fr + m)) N := TaW_R (TkR_F TkR_rf (by decide)) hW0
    have W1' := W1
    obtain ⟨h5, q0, q2, q3, h6, h7, h8, e1, hN, hby⟩ := W1'
    have hcb := cb_B (i := fr + m) hW0
    have ecb : cb (setF S0 5 5 (fr + m)) N = cb S0 N := cb_R (TkR_F TkR_rf (by decide))
    have hcd := cb_bd (i := fr + m) hW0
    have e55 : (setF S0 5 5 (fr + m)).1 5 5 = fr + m := setF_at
    by_cases c : isd (ctB S0 N (fr + m)) = true
    · have hc := isd_iff.mp c
      have hlt : fr + m < N := by
        by_cases z : N ≤ fr + m
        · have := hB.2.1 _ z; omega
        · omega
      have hn := ih (m + 1) (by omega) (by omega) (by rw [show fr + ((m + 1 : Nat) : Int) = fr + m + 1 by omega, ← spn_step hB (by decide) (by omega) c]; exact he)
      rw [show fr + ((m + 1 : Nat) : Int) = fr + m + 1 by omega, show nmb (ctB S0 N) fr (m + 1) = 10 * nmb (ctB S0 N) fr m + cb S0 N (fr + m) - 48 by
        show 10 * nmb (ctB S0 N) fr m + ctB S0 N (fr + m) - 48 = _
        omega] at hn
      refine S_aload_n (pc := 7) dX6_readNumber_7 rfl ?_
      refine S_getI (pc := 8) dX6_readNumber_8 fX6_43 (by assumption) rfl ?_
      rw [e55]
      refine S_aload_n (pc := 11) dX6_readNumber_11 rfl ?_
      refine S_getI (pc := 12) dX6_readNumber_12 fX6_22 (by assumption) rfl ?_
      rw [e1]
      refine G_icmp_ge_f (pc := 15) 62 dX6_readNumber_15 rfl (by omega) (by omega) ?_
      refine S_aload_n (pc := 18) dX6_readNumber_18 rfl ?_
      refine S_aload_n (pc := 19) dX6_readNumber_19 rfl ?_
      refine S_getI (pc := 20) dX6_readNumber_20 fX6_43 (by assumption) rfl ?_
      rw [e55]
      refine S_callV (pc := 23) (ci := 6) (d2 := 1) (mc2 := 0) (ms2 := 0) (As := [_]) dX6_readNumber_23 kX6_byteAt lkX6_52 (by assumption) rfl rfl rfl (Nat.le_of_ble_eq_true rfl) ⟨by decide, by decide⟩ (by decide) ?_
      refine c_X6_byteAt W1 (by omega) ?_
      rw [ecb]
      show G _ _ _ _ _ _ _ _ _ _ _ _ _
      refine G_callS (pc := 26) (d2 := 1) (mc2 := 0) (ms2 := 0) (As := [_]) dX6_readNumber_26 kX6_isDigit lkX6_63 rfl rfl (Nat.le_of_ble_eq_true rfl) ⟨by decide, by decide⟩ (by decide) ?_
      refine c_X6_isDigit (by omega) (fun _ => ?_) (fun z => absurd (by omega) z)
      · show G _ _ _ _ _ _ _ _ _ _ _ _ _
        refine G_if_eq_f (pc := 29) 62 dX6_readNumber_29 rfl (by decide) (by decide) ?_
        refine G_bipush (pc := 32) dX6_readNumber_32 rfl ?_
        refine G_iload_n (pc := 34) dX6_readNumber_34 rfl ?_
        refine G_imul (pc := 35) dX6_readNumber_35 ?_
        refine S_aload_n (pc := 36) dX6_readNumber_36 rfl ?_
        refine S_aload_n (pc := 37) dX6_readNumber_37 rfl ?_
        refine S_getI (pc := 38) dX6_readNumber_38 fX6_43 (by assumption) rfl ?_
        rw [e55]
        refine S_callV (pc := 41) (ci := 6) (d2 := 1) (mc2 := 0) (ms2 := 0) (As := [_]) dX6_readNumber_41 kX6_byteAt lkX6_52 (by assumption) rfl rfl rfl (Nat.le_of_ble_eq_true rfl) ⟨by decide, by decide⟩ (by decide) ?_
        refine c_X6_byteAt W1 (by omega) ?_
        rw [ecb]
        show G _ _ _ _ _ _ _ _ _ _ _ _ _
        refine G_iadd (pc := 44) dX6_readNumber_44 ?_
        refine G_bipush (pc := 45) dX6_readNumber_45 rfl ?_
        refine G_isub (pc := 47) dX6_readNumber_47 ?_
        refine G_istore_n (pc := 48) (ls' := [(2, _), (1, _), (0, _)]) dX6_readNumber_48 (by decide) rfl ?_
        refine S_aload_n (pc := 49) dX6_readNumber_49 rfl ?_
        refine G_dup (pc := 50) dX6_readNumber_50 rfl ?_
        refine S_getI (pc := 51) dX6_readNumber_51 fX6_43 (by assumption) rfl ?_
        rw [e55]
        refine G_iconst (pc := 54) dX6_readNumber_54 ?_
        refine G_iadd (pc := 55) dX6_readNumber_55 ?_
        refine S_putI (pc := 56) dX6_readNumber_56 fX6_43 (by assumption) rfl ⟨rfl, rfl⟩ ?_
        refine G_goto (pc := 59) 7 dX6_readNumber_59 rfl ?_
        rw [setF_setF]
        exact hn
    · have hc : ¬ (48 ≤ ctB S0 N (fr + m) ∧ ctB S0 N (fr + m) ≤ 57) := fun z => c (isd_iff.mpr z)
      rw [spn_at c] at he
      have hk2 := K m he
      rw [← he] at hk2
      refine S_aload_n (pc := 7) dX6_readNumber_7 rfl ?_
      refine S_getI (pc := 8) dX6_readNumber_8 fX6_43 (by assumption) rfl ?_
      rw [e55]
      refine S_aload_n (pc := 11) dX6_readNumber_11 rfl ?_
      refine S_getI (pc := 12) dX6_readNumber_12 fX6_22 (by assumption) rfl ?_
      rw [e1]
      refine G_icmp_ge (pc := 15) 62 dX6_readNumber_15 rfl (by omega) (fun c15 => ?_) (fun c15 => ?_)
      · skip
        exact hk2
      · skip
        refine S_aload_n (pc := 18) dX6_readNumber_18 rfl ?_
        refine S_aload_n (pc := 19) dX6_readNumber_19 rfl ?_
        refine S_getI (pc := 20) dX6_readNumber_20 fX6_43 (by assumption) rfl ?_
        rw [e55]
        refine S_callV (pc := 23) (ci := 6) (d2 := 1) (mc2 := 0) (ms2 := 0) (As := [_]) dX6_readNumber_23 kX6_byteAt lkX6_52 (by assumption) rfl rfl rfl (Nat.le_of_ble_eq_true rfl) ⟨by decide, by decide⟩ (by decide) ?_
        refine c_X6_byteAt W1 (by omega) ?_
        rw [ecb]
        show G _ _ _ _ _ _ _ _ _ _ _ _ _
        refine G_callS (pc := 26) (d2 := 1) (mc2 := 0) (ms2 := 0) (As := [_]) dX6_readNumber_26 kX6_isDigit lkX6_63 rfl rfl (Nat.le_of_ble_eq_true rfl) ⟨by decide, by decide⟩ (by decide) ?_
        refine c_X6_isDigit (by omega) (fun z => absurd z (by omega)) (fun _ => ?_)
        · show G _ _ _ _ _ _ _ _ _ _ _ _ _
          refine G_if_eq_t (pc := 29) 62 dX6_readNumber_29 rfl (by decide) (by decide) ?_
          exact hk2
set_option maxRecDepth 100000 in
set_option maxHeartbeats 4000000 in
theorem c_X6_readNumber {g : GC} {sh : SH} {S : SS} {n : Nat} {N : Int} {h : Int} {Q : Option Value → GA → Nat → Prop} (hW : TaW sh S N) (h55 : S.1 5 5 = h) (hh : 0 ≤ h ∧ h ≤ N) (hq : Q (some (.int (iI (if 4 < spn isd (ctB S N) 161 h - h then 257 else 1000 + nmb (ctB S N) h (spn isd (ctB S N) 161 h - h).toNat)))) (hp g sh (setF S 5 5 (spn isd (ctB S N) 161 h))) n) : GCall g mX6_readNumber 2 0 0 [gr g 5] (hp g sh S) n Q := by
  have hW' := hW
  obtain ⟨h5, q0, q2, q3, h6, h7, h8, e1, hN, hby⟩ := hW'
  have hB := ctB_is hW
  have g1 := spn_ge (P := isd) (B := ctB S N) 161 h
  have g2 := spn_le hB (P := isd) (by decide) 161 h hh.2
  have e55 : (setF S 5 5 (spn isd (ctB S N) 161 h)).1 5 5 = spn isd (ctB S N) 161 h := setF_at
  have K : ∀ m : Nat, h + m = spn isd (ctB S N) 161 h → G g mX6_readNumber 2 0 0 62 [(2, .int (iI (nmb (ctB S N) h m))), (1, .int (iI h)), (0, gr g 5)] [] (hp g sh (setF S 5 5 (spn isd (ctB S N) 161 h))) n 0 0 Q := by
    intro m hm
    have em : (spn isd (ctB S N) 161 h - h).toNat = m := by omega
    rw [em] at hq
    refine S_aload_n (pc := 62) dX6_readNumber_62 rfl ?_
    refine S_getI (pc := 63) dX6_readNumber_63 fX6_43 (by assumption) rfl ?_
    rw [e55]
    refine G_iload_n (pc := 66) dX6_readNumber_66 rfl ?_
    refine G_isub (pc := 67) dX6_readNumber_67 ?_
    refine G_iconst (pc := 68) dX6_readNumber_68 ?_
    refine G_icmp_le (pc := 69) 78 dX6_readNumber_69 rfl (by omega) (fun c69 => ?_) (fun c69 => ?_)
    · skip
      refine G_sipush (pc := 78) dX6_readNumber_78 rfl ?_
      refine G_iload_n (pc := 81) dX6_readNumber_81 rfl ?_
      refine G_iadd (pc := 82) dX6_readNumber_82 ?_
      refine G_iret (pc := 83) dX6_readNumber_83 rfl (by decide) ?_
      first | (rw [if_pos (by omega)] at hq; exact hq) | (rw [if_neg (by omega)] at hq; exact hq)
    · skip
      refine G_sipush (pc := 72) dX6_readNumber_72 rfl ?_
      refine G_goto (pc := 75) 83 dX6_readNumber_75 rfl ?_
      refine G_iret (pc := 83) dX6_readNumber_83 rfl (by decide) ?_
      first | (rw [if_pos (by omega)] at hq; exact hq) | (rw [if_neg (by omega)] at hq; exact hq)
  refine GCall.of (by decide) (Nat.le_of_ble_eq_true rfl) (ls := [(0, _)]) rfl ?_
  have := l_X6_readNumber hW hh.1 K (N - h).toNat 0 (by omega) (by omega) (by rw [show h + ((0 : Nat) : Int) = h by omega])
  rw [show h + ((0 : Nat) : Int) = h by omega, show setF S 5 5 h = S by rw [← h55]; exact setF_same] at this
  refine S_aload_n (pc := 0) dX6_readNumber_0 rfl ?_
  refine S_getI (pc := 1) dX6_readNumber_1 fX6_43 (by assumption) rfl ?_
  rw [h55]
  refine G_istore_n (pc := 4) (ls' := [(1, _), (0, _)]) dX6_readNumber_4 (by decide) rfl ?_
  refine G_iconst (pc := 5) dX6_readNumber_5 ?_
  refine G_istore_n (pc := 6) (ls' := [(2, _), (1, _), (0, _)]) dX6_readNumber_6 (by decide) rfl ?_
  exact this
set_option maxRecDepth 100000 in
set_option maxHeartbeats 4000000 in
theorem c_X6_readToken {g : GC} {sh : SH} {S : SS} {n : Nat} {N : Int} {h : Int} {Q : Option Value → GA → Nat → Prop} (hW : TaW sh S N) (h55 : S.1 5 5 = h) (hh : 0 ≤ h ∧ h < N) (hq : Q (some (.int (iI (tkc (ctB S N) h)))) (hp g sh (setF S 5 5 (tke (ctB S N) h))) n) : GCall g mX6_readToken 8 0 0 [gr g 5] (hp g sh S) n Q := by
  have hW' := hW
  obtain ⟨h5, q0, q2, q3, h6, h7, h8, e1, hN, hby⟩ := hW'
  have hB := ctB_is hW
  have hb := hB.2.2 h hh.1 hh.2
  have hcb := cb_B (i := h) hW
  have hcd := cb_bd (i := h) hW
  have c0 : ¬ ctB S N h < 0 := by omega
  unfold tkc tke at hq
  rw [if_neg c0, if_neg c0] at hq
  refine GCall.of (by decide) (Nat.le_of_ble_eq_true rfl) (ls := [(0, _)]) rfl ?_
  by_cases c1 : isl (ctB S N h) = true
  · have hc := isl_iff.mp c1
    rw [if_pos c1, if_pos c1] at hq
    refine S_aload_n (pc := 0) dX6_readToken_0 rfl ?_
    refine S_aload_n (pc := 1) dX6_readToken_1 rfl ?_
    refine S_getI (pc := 2) dX6_readToken_2 fX6_43 (by assumption) rfl ?_
    rw [h55]
    refine S_callV (pc := 5) (ci := 6) (d2 := 1) (mc2 := 0) (ms2 := 0) (As := [_]) dX6_readToken_5 kX6_byteAt lkX6_52 (by assumption) rfl rfl rfl (Nat.le_of_ble_eq_true rfl) ⟨by decide, by decide⟩ (by decide) ?_
    refine c_X6_byteAt hW (by omega) ?_
    show G _ _ _ _ _ _ _ _ _ _ _ _ _
    refine G_istore_n (pc := 8) (ls' := [(1, _), (0, _)]) dX6_readToken_8 (by decide) rfl ?_
    refine G_iload_n (pc := 9) dX6_readToken_9 rfl ?_
    refine G_callS (pc := 10) (d2 := 1) (mc2 := 0) (ms2 := 0) (As := [_]) dX6_readToken_10 kX6_isLetter lkX6_56 rfl rfl (Nat.le_of_ble_eq_true rfl) ⟨by decide, by decide⟩ (by decide) ?_
    refine c_X6_isLetter (by omega) (fun _ => ?_) (fun z => absurd (by omega) z)
    · show G _ _ _ _ _ _ _ _ _ _ _ _ _
      refine G_if_eq_f (pc := 13) 21 dX6_readToken_13 rfl (by decide) (by decide) ?_
      refine S_aload_n (pc := 16) dX6_readToken_16 rfl ?_
      refine S_callV (pc := 17) (ci := 6) (d2 := 7) (mc2 := 0) (ms2 := 0) (As := []) dX6_readToken_17 kX6_readWord lkX6_60 (by assumption) rfl rfl rfl (Nat.le_of_ble_eq_true rfl) ⟨by decide, by decide⟩ (by decide) ?_
      refine c_X6_readWord hW h55 (by omega) ?_
      show G _ _ _ _ _ _ _ _ _ _ _ _ _
      refine G_iret (pc := 20) dX6_readToken_20 rfl (by decide) ?_
      exact hq
  · have hc1 : ¬ (97 ≤ ctB S N h ∧ ctB S N h ≤ 122) := fun z => c1 (isl_iff.mpr z)
    rw [if_neg c1, if_neg c1] at hq
    by_cases c2 : isd (ctB S N h) = true
    · have hc := isd_iff.mp c2
      rw [if_pos c2, if_pos c2] at hq
      refine S_aload_n (pc := 0) dX6_readToken_0 rfl ?_
      refine S_aload_n (pc := 1) dX6_readToken_1 rfl ?_
      refine S_getI (pc := 2) dX6_readToken_2 fX6_43 (by assumption) rfl ?_
      rw [h55]
      refine S_callV (pc := 5) (ci := 6) (d2 := 1) (mc2 := 0) (ms2 := 0) (As := [_]) dX6_readToken_5 kX6_byteAt lkX6_52 (by assumption) rfl rfl rfl (Nat.le_of_ble_eq_true rfl) ⟨by decide, by decide⟩ (by decide) ?_
      refine c_X6_byteAt hW (by omega) ?_
      show G _ _ _ _ _ _ _ _ _ _ _ _ _
      refine G_istore_n (pc := 8) (ls' := [(1, _), (0, _)]) dX6_readToken_8 (by decide) rfl ?_
      refine G_iload_n (pc := 9) dX6_readToken_9 rfl ?_
      refine G_callS (pc := 10) (d2 := 1) (mc2 := 0) (ms2 := 0) (As := [_]) dX6_readToken_10 kX6_isLetter lkX6_56 rfl rfl (Nat.le_of_ble_eq_true rfl) ⟨by decide, by decide⟩ (by decide) ?_
      refine c_X6_isLetter (by omega) (fun z => absurd z (by omega)) (fun _ => ?_)
      · show G _ _ _ _ _ _ _ _ _ _ _ _ _
        refine G_if_eq_t (pc := 13) 21 dX6_readToken_13 rfl (by decide) (by decide) ?_
        refine G_iload_n (pc := 21) dX6_readToken_21 rfl ?_
        refine G_callS (pc := 22) (d2 := 1) (mc2 := 0) (ms2 := 0) (As := [_]) dX6_readToken_22 kX6_isDigit lkX6_63 rfl rfl (Nat.le_of_ble_eq_true rfl) ⟨by decide, by decide⟩ (by decide) ?_
        refine c_X6_isDigit (by omega) (fun _ => ?_) (fun z => absurd (by omega) z)
        · show G _ _ _ _ _ _ _ _ _ _ _ _ _
          refine G_if_eq_f (pc := 25) 33 dX6_readToken_25 rfl (by decide) (by decide) ?_
          refine S_aload_n (pc := 28) dX6_readToken_28 rfl ?_
          refine S_callV (pc := 29) (ci := 6) (d2 := 2) (mc2 := 0) (ms2 := 0) (As := []) dX6_readToken_29 kX6_readNumber lkX6_66 (by assumption) rfl rfl rfl (Nat.le_of_ble_eq_true rfl) ⟨by decide, by decide⟩ (by decide) ?_
          refine c_X6_readNumber hW h55 (by omega) ?_
          show G _ _ _ _ _ _ _ _ _ _ _ _ _
          refine G_iret (pc := 32) dX6_readToken_32 rfl (by decide) ?_
          exact hq
    · have hc2 : ¬ (48 ≤ ctB S N h ∧ ctB S N h ≤ 57) := fun z => c2 (isd_iff.mpr z)
      rw [if_neg c2, if_neg c2] at hq
      refine S_aload_n (pc := 0) dX6_readToken_0 rfl ?_
      refine S_aload_n (pc := 1) dX6_readToken_1 rfl ?_
      refine S_getI (pc := 2) dX6_readToken_2 fX6_43 (by assumption) rfl ?_
      rw [h55]
      refine S_callV (pc := 5) (ci := 6) (d2 := 1) (mc2 := 0) (ms2 := 0) (As := [_]) dX6_readToken_5 kX6_byteAt lkX6_52 (by assumption) rfl rfl rfl (Nat.le_of_ble_eq_true rfl) ⟨by decide, by decide⟩ (by decide) ?_
      refine c_X6_byteAt hW (by omega) ?_
      show G _ _ _ _ _ _ _ _ _ _ _ _ _
      refine G_istore_n (pc := 8) (ls' := [(1, _), (0, _)]) dX6_readToken_8 (by decide) rfl ?_
      refine G_iload_n (pc := 9) dX6_readToken_9 rfl ?_
      refine G_callS (pc := 10) (d2 := 1) (mc2 := 0) (ms2 := 0) (As := [_]) dX6_readToken_10 kX6_isLetter lkX6_56 rfl rfl (Nat.le_of_ble_eq_true rfl) ⟨by decide, by decide⟩ (by decide) ?_
      refine c_X6_isLetter (by omega) (fun z => absurd z (by omega)) (fun _ => ?_)
      · show G _ _ _ _ _ _ _ _ _ _ _ _ _
        refine G_if_eq_t (pc := 13) 21 dX6_readToken_13 rfl (by decide) (by decide) ?_
        refine G_iload_n (pc := 21) dX6_readToken_21 rfl ?_
        refine G_callS (pc := 22) (d2 := 1) (mc2 := 0) (ms2 := 0) (As := [_]) dX6_readToken_22 kX6_isDigit lkX6_63 rfl rfl (Nat.le_of_ble_eq_true rfl) ⟨by decide, by decide⟩ (by decide) ?_
        refine c_X6_isDigit (by omega) (fun z => absurd z (by omega)) (fun _ => ?_)
        · show G _ _ _ _ _ _ _ _ _ _ _ _ _
          refine G_if_eq_t (pc := 25) 33 dX6_readToken_25 rfl (by decide) (by decide) ?_
          refine S_aload_n (pc := 33) dX6_readToken_33 rfl ?_
          refine G_dup (pc := 34) dX6_readToken_34 rfl ?_
          refine S_getI (pc := 35) dX6_readToken_35 fX6_43 (by assumption) rfl ?_
          rw [h55]
          refine G_iconst (pc := 38) dX6_readToken_38 ?_
          refine G_iadd (pc := 39) dX6_readToken_39 ?_
          refine S_putI (pc := 40) dX6_readToken_40 fX6_43 (by assumption) rfl ⟨rfl, rfl⟩ ?_
          refine G_iload_n (pc := 43) dX6_readToken_43 rfl ?_
          refine G_callS (pc := 44) (d2 := 1) (mc2 := 0) (ms2 := 0) (As := [_]) dX6_readToken_44 kX6_isSign lkX6_69 rfl rfl (Nat.le_of_ble_eq_true rfl) ⟨by decide, by decide⟩ (by decide) ?_
          refine c_X6_isSign (by omega) (fun z => ?_) (fun z => ?_)
          · show G _ _ _ _ _ _ _ _ _ _ _ _ _
            refine G_if_eq_f (pc := 47) 54 dX6_readToken_47 rfl (by decide) (by decide) ?_
            refine G_iload_n (pc := 50) dX6_readToken_50 rfl ?_
            refine G_goto (pc := 51) 57 dX6_readToken_51 rfl ?_
            refine G_iret (pc := 57) dX6_readToken_57 rfl (by decide) ?_
            first
              | (have hz := isg_iff.mp z
                 have ez : ctB S N h = cb S N h := by omega
                 rw [if_pos (by rw [ez]; exact z), ez] at hq
                 exact hq)
              | (rw [if_neg (fun y => z (by
                   have hy := isg_iff.mp y
                   have ez : ctB S N h = cb S N h := by omega
                   rw [← ez]; exact y))] at hq
                 exact hq)
          · show G _ _ _ _ _ _ _ _ _ _ _ _ _
            refine G_if_eq_t (pc := 47) 54 dX6_readToken_47 rfl (by decide) (by decide) ?_
            refine G_sipush (pc := 54) dX6_readToken_54 rfl ?_
            refine G_iret (pc := 57) dX6_readToken_57 rfl (by decide) ?_
            first
              | (have hz := isg_iff.mp z
                 have ez : ctB S N h = cb S N h := by omega
                 rw [if_pos (by rw [ez]; exact z), ez] at hq
                 exact hq)
              | (rw [if_neg (fun y => z (by
                   have hy := isg_iff.mp y
                   have ez : ctB S N h = cb S N h := by omega
                   rw [← ez]; exact y))] at hq
                 exact hq)
/-- cut up into TOKENS -/
def TkW (S : SS) (N : Int) (B : Int → Int) : Prop := ∃ T : Nat, S.1 5 4 = T ∧ T ≤ 160 ∧ (∀ k : Nat, k < T → S.2.1 7 k = tkk B k ∧ S.2.1 8 k = tka N B k) ∧ (∀ k : Nat, k < T → tkk B k ≠ 256) ∧ ∀ k : Nat, T ≤ k → tkk B k = 256 ∧ tka N B k = N
theorem tkk_rng {B : Int → Int} {N : Int} (hB : IsB N B) (k : Nat) : 0 ≤ tkk B k ∧ tkk B k ≤ 10999 := by
  have h1 := tps_bd hB k
  have h2 := tk1_bd hB k
  unfold tkk tkc
  split
  · omega
  · split
    · have := kon_cod (B := B) (h := tk1 B k) (n := spn isl B 161 (tk1 B k) - tk1 B k); omega
    · split
      · have hdig : ∀ i : Int, tk1 B k ≤ i → i < tk1 B k + (spn isd B 161 (tk1 B k) - tk1 B k).toNat → 48 ≤ B i ∧ B i ≤ 57 := fun i a b => isd_iff.mp (spn_in 161 (tk1 B k) i a (by have := spn_ge (P := isd) (B := B) 161 (tk1 B k); omega))
        have g1 := nmb_ge hdig
        split
        · omega
        · have g2 := nmb_le (by omega) hdig
          omega
      · split
        · have := hB.2.2 (tk1 B k) (by omega) (by
            by_cases z : tk1 B k < N
            · exact z
            · have := h2.2.2.mpr (by omega); omega)
          omega
        · omega
set_option maxRecDepth 100000 in
set_option maxHeartbeats 4000000 in
theorem l_X6_cutUp {g : GC} {sh : SH} {S0 : SS} {n : Nat} {N : Int} {B : Int → Int} {Q : Option Value → GA → Nat → Prop} (hB0 : ctB S0 N = B) (hW0 : TaW sh S0 N) (hq : ∀ S : SS, TkR S0 S → TkW S N B → Q none (hp g sh S) n) : ∀ (f k : Nat) (S : SS), N - k ≤ f → (∀ j : Nat, j < k → tkk B j ≠ 256) → TkR S0 S → S.1 5 5 = tk1 B k → S.1 5 4 = k → (∀ j : Nat, j < k → S.2.1 7 j = tkk B j ∧ S.2.1 8 j = tk1 B j) → G g mX6_cutUp 9 0 0 14 [(0, gr g 5)] [] (hp g sh S) n 0 0 Q := by
  have hB : IsB N B := by rw [← hB0]; exact ctB_is hW0
  have hend : ∀ (k : Nat) (S : SS), (∀ j : Nat, j < k → tkk B j ≠ 256) → TkR S0 S → S.1 5 5 = tk1 B k → S.1 5 4 = k → (∀ j : Nat, j < k → S.2.1 7 j = tkk B j ∧ S.2.1 8 j = tk1 B j) → tkk B k = 256 → G g mX6_cutUp 9 0 0 14 [(0, gr g 5)] [] (hp g sh S) n 0 0 Q := by
    intro k S hne hR h5 h4 hall he
    have W1 := TaW_R hR hW0
    have W1' := W1
    obtain ⟨h5', q0, q2, q3, h6, h7, h8, e1, hN, hby⟩ := W1'
    have hk1 := (tkk_end hB k).mp he
    have hk160 : k ≤ 160 := by
      by_cases z : k ≤ 160
      · exact z
      · exact absurd (tkk_big hB (k := 160) (by omega)) (hne 160 (by omega))
    refine S_aload_n (pc := 14) dX6_cutUp_14 rfl ?_
    refine S_getI (pc := 15) dX6_cutUp_15 fX6_43 (by assumption) rfl ?_
    rw [h5]
    refine S_aload_n (pc := 18) dX6_cutUp_18 rfl ?_
    refine S_getI (pc := 19) dX6_cutUp_19 fX6_22 (by assumption) rfl ?_
    rw [e1]
    refine G_icmp_ge_t (pc := 22) 80 dX6_cutUp_22 rfl (by omega) (by omega) ?_
    refine G_vret (pc := 80) dX6_cutUp_80 rfl (by decide) ?_
    refine hq S hR ⟨k, h4, hk160, fun j hj => ⟨(hall j hj).1, ?_⟩, hne, ?_⟩
    · rw [(hall j hj).2]
      have hj1 := tk1_bd hB j
      have : tk1 B j ≠ N := fun z => hne j hj ((tkk_end hB j).mpr z)
      unfold tka
      rw [if_neg (fun z => this (hj1.2.2.mp z))]
    · intro j hj
      have hst : ∀ m : Nat, tkk B (k + m) = 256 := fun m => by
        induction m with
        | zero => exact he
        | succ m ihm => exact tkk_stays hB ihm
      have hj2 := hst (j - k)
      rw [show k + (j - k) = j by omega] at hj2
      refine ⟨hj2, ?_⟩
      have := (tkk_end hB j).mp hj2
      have hj1 := tk1_bd hB j
      unfold tka
      rw [if_pos (hj1.2.2.mpr this)]
  intro f
  induction f with
  | zero =>
    intro k S hf hne hR h5 h4 hall
    exact hend k S hne hR h5 h4 hall (tkk_big hB (by omega))
  | succ f ih =>
    intro k S hf hne hR h5 h4 hall
    by_cases he : tkk B k = 256
    · exact hend k S hne hR h5 h4 hall he
    · have W1 := TaW_R hR hW0
      have W1' := W1
      obtain ⟨h5', q0, q2, q3, h6, h7, h8, e1, hN, hby⟩ := W1'
      have hkN := tk_in hB he
      have hk1 := tk1_bd hB k
      have hkp := tps_bd hB k
      have hne1 : tk1 B k ≠ N := fun z => he ((tkk_end hB k).mpr z)
      have eB : ctB S N = B := (ctB_R hR).trans hB0
      have W2 : TaW sh (setA S 8 k (tk1 B k)) N := TaW_R (TkR_A TkR_rf (by decide)) W1
      have eB2 : ctB (setA S 8 k (tk1 B k)) N = B := (ctB_R (TkR_A TkR_rf (by decide))).trans eB
      have htb := tps_bd hB (k + 1)
      have R3 : TkR S (setF (setA (setF (setA S 8 k (tk1 B k)) 5 5 (tps B (k + 1))) 7 k (tkk B k)) 5 4 (k + 1)) := TkR_F (TkR_A (TkR_F (TkR_A TkR_rf (by decide)) (by decide)) (by decide)) (by decide)
      have W3 := TaW_R R3 W1
      have eB3 : ctB (setF (setA (setF (setA S 8 k (tk1 B k)) 5 5 (tps B (k + 1))) 7 k (tkk B k)) 5 4 (k + 1)) N = B := (ctB_R R3).trans eB
      have e55 : (setF (setA (setF (setA S 8 k (tk1 B k)) 5 5 (tps B (k + 1))) 7 k (tkk B k)) 5 4 (k + 1)).1 5 5 = tps B (k + 1) := by
        rw [setF_ne (by decide)]
        show (setF (setA S 8 k (tk1 B k)) 5 5 (tps B (k + 1))).1 5 5 = _
        exact setF_at
      have hn := ih (k + 1) (setF (setF (setA (setF (setA S 8 k (tk1 B k)) 5 5 (tps B (k + 1))) 7 k (tkk B k)) 5 4 (k + 1)) 5 5 (tk1 B (k + 1))) (by omega) (fun j hj => by
          by_cases z : j = k
          · rw [z]; exact he
          · exact hne j (by omega)) (TkR_F (TkR_tr hR R3) (by decide)) setF_at (by rw [setF_ne (by decide), setF_at]; omega) (fun j hj => by
          have e7 : (setF (setF (setA (setF (setA S 8 k (tk1 B k)) 5 5 (tps B (k + 1))) 7 k (tkk B k)) 5 4 (k + 1)) 5 5 (tk1 B (k + 1))).2.1 7 = iup (S.2.1 7) k (tkk B k) := by
            show (setA (setF (setA S 8 k (tk1 B k)) 5 5 (tps B (k + 1))) 7 k (tkk B k)).2.1 7 = _
            unfold setA
            rw [putA_at]
            show iup ((putA S 8 _).2.1 7) _ _ = _
            rw [putA_ne (by decide)]
          have e8 : (setF (setF (setA (setF (setA S 8 k (tk1 B k)) 5 5 (tps B (k + 1))) 7 k (tkk B k)) 5 4 (k + 1)) 5 5 (tk1 B (k + 1))).2.1 8 = iup (S.2.1 8) k (tk1 B k) := by
            show (setA (setF (setA S 8 k (tk1 B k)) 5 5 (tps B (k + 1))) 7 k (tkk B k)).2.1 8 = _
            unfold setA
            rw [putA_ne (by decide)]
            show (putA S 8 _).2.1 8 = _
            rw [putA_at]
          rw [e7, e8]
          by_cases z : j = k
          · rw [z, iup_at, iup_at]; exact ⟨rfl, rfl⟩
          · rw [iup_ne (by omega), iup_ne (by omega)]
            exact hall j (by omega))
      have e4b : (setA S 8 k (tk1 B k)).1 5 4 = k := h4
      have e4c : (setA (setF (setA S 8 k (tk1 B k)) 5 5 (tps B (k + 1))) 7 k (tkk B k)).1 5 4 = k := by
        show (setF (setA S 8 k (tk1 B k)) 5 5 (tps B (k + 1))).1 5 4 = k
        rw [setF_ne (by decide)]; exact h4
      refine S_aload_n (pc := 14) dX6_cutUp_14 rfl ?_
      refine S_getI (pc := 15) dX6_cutUp_15 fX6_43 (by assumption) rfl ?_
      rw [h5]
      refine S_aload_n (pc := 18) dX6_cutUp_18 rfl ?_
      refine S_getI (pc := 19) dX6_cutUp_19 fX6_22 (by assumption) rfl ?_
      rw [e1]
      refine G_icmp_ge_f (pc := 22) 80 dX6_cutUp_22 rfl (by omega) (by omega) ?_
      refine S_aload_n (pc := 25) dX6_cutUp_25 rfl ?_
      refine S_getI (pc := 26) dX6_cutUp_26 fX6_26 (by assumption) rfl ?_
      rw [h4]
      refine S_aload_n (pc := 29) dX6_cutUp_29 rfl ?_
      refine S_getR (pc := 30) dX6_cutUp_30 fX6_15 (by assumption) rfl (by assumption) ?_
      refine S_alen (pc := 33) dX6_cutUp_33 (Or.inl (by assumption)) ?_
      refine G_icmp_ge_f (pc := 34) 80 dX6_cutUp_34 rfl (by omega) (by omega) ?_
      refine S_aload_n (pc := 37) dX6_cutUp_37 rfl ?_
      refine S_getR (pc := 38) dX6_cutUp_38 fX6_19 (by assumption) rfl (by assumption) ?_
      refine S_aload_n (pc := 41) dX6_cutUp_41 rfl ?_
      refine S_getI (pc := 42) dX6_cutUp_42 fX6_26 (by assumption) rfl ?_
      rw [h4]
      refine S_aload_n (pc := 45) dX6_cutUp_45 rfl ?_
      refine S_getI (pc := 46) dX6_cutUp_46 fX6_43 (by assumption) rfl ?_
      rw [h5]
      refine S_iast (pc := 49) dX6_cutUp_49 (by assumption) (by omega) ?_
      refine S_aload_n (pc := 50) dX6_cutUp_50 rfl ?_
      refine S_getR (pc := 51) dX6_cutUp_51 fX6_15 (by assumption) rfl (by assumption) ?_
      refine S_aload_n (pc := 54) dX6_cutUp_54 rfl ?_
      refine S_getI (pc := 55) dX6_cutUp_55 fX6_26 (by assumption) rfl ?_
      rw [e4b]
      refine S_aload_n (pc := 58) dX6_cutUp_58 rfl ?_
      refine S_callV (pc := 59) (ci := 6) (d2 := 8) (mc2 := 0) (ms2 := 0) (As := []) dX6_cutUp_59 kX6_readToken lkX6_49 (by assumption) rfl rfl rfl (Nat.le_of_ble_eq_true rfl) ⟨by decide, by decide⟩ (by decide) ?_
      refine c_X6_readToken W2 (h := tk1 B k) h5 (by omega) ?_
      rw [eB2, show tke B (tk1 B k) = tps B (k + 1) from rfl, show tkc B (tk1 B k) = tkk B k from rfl]
      show G _ _ _ _ _ _ _ _ _ _ _ _ _
      refine S_iast (pc := 62) dX6_cutUp_62 (by assumption) (by omega) ?_
      refine S_aload_n (pc := 63) dX6_cutUp_63 rfl ?_
      refine G_dup (pc := 64) dX6_cutUp_64 rfl ?_
      refine S_getI (pc := 65) dX6_cutUp_65 fX6_26 (by assumption) rfl ?_
      rw [e4c]
      refine G_iconst (pc := 68) dX6_cutUp_68 ?_
      refine G_iadd (pc := 69) dX6_cutUp_69 ?_
      refine S_putI (pc := 70) dX6_cutUp_70 fX6_26 (by assumption) rfl ⟨rfl, rfl⟩ ?_
      refine S_aload_n (pc := 73) dX6_cutUp_73 rfl ?_
      refine S_callV (pc := 74) (ci := 6) (d2 := 2) (mc2 := 0) (ms2 := 0) (As := []) dX6_cutUp_74 kX6_skipBlanks lkX6_46 (by assumption) rfl rfl rfl (Nat.le_of_ble_eq_true rfl) ⟨by decide, by decide⟩ (by decide) ?_
      refine c_X6_skipBlanks W3 e55 htb ?_
      rw [eB3, show spn isb B 161 (tps B (k + 1)) = tk1 B (k + 1) from rfl]
      show G _ _ _ _ _ _ _ _ _ _ _ _ _
      refine G_goto (pc := 77) 14 dX6_cutUp_77 rfl ?_
      exact hn
set_option maxRecDepth 100000 in
set_option maxHeartbeats 4000000 in
theorem c_X6_cutUp {g : GC} {sh : SH} {S : SS} {n : Nat} {N : Int} {B : Int → Int} {Q : Option Value → GA → Nat → Prop} (hB0 : ctB S N = B) (hW : TaW sh S N) (hq : ∀ S' : SS, TkR S S' → TkW S' N B → Q none (hp g sh S') n) : GCall g mX6_cutUp 9 0 0 [gr g 5] (hp g sh S) n Q := by
  have hW' := hW
  obtain ⟨h5, q0, q2, q3, h6, h7, h8, e1, hN, hby⟩ := hW'
  have R1 : TkR S (setF (setF S 5 4 0) 5 5 0) := TkR_F (TkR_F TkR_rf (by decide)) (by decide)
  have W1 := TaW_R R1 hW
  have eB : ctB (setF (setF S 5 4 0) 5 5 0) N = B := (ctB_R R1).trans hB0
  refine GCall.of (by decide) (Nat.le_of_ble_eq_true rfl) (ls := [(0, _)]) rfl ?_
  refine S_aload_n (pc := 0) dX6_cutUp_0 rfl ?_
  refine G_iconst (pc := 1) dX6_cutUp_1 ?_
  refine S_putI (pc := 2) dX6_cutUp_2 fX6_26 (by assumption) rfl ⟨rfl, rfl⟩ ?_
  refine S_aload_n (pc := 5) dX6_cutUp_5 rfl ?_
  refine G_iconst (pc := 6) dX6_cutUp_6 ?_
  refine S_putI (pc := 7) dX6_cutUp_7 fX6_43 (by assumption) rfl ⟨rfl, rfl⟩ ?_
  refine S_aload_n (pc := 10) dX6_cutUp_10 rfl ?_
  refine S_callV (pc := 11) (ci := 6) (d2 := 2) (mc2 := 0) (ms2 := 0) (As := []) dX6_cutUp_11 kX6_skipBlanks lkX6_46 (by assumption) rfl rfl rfl (Nat.le_of_ble_eq_true rfl) ⟨by decide, by decide⟩ (by decide) ?_
  refine c_X6_skipBlanks W1 setF_at (by omega) ?_
  rw [eB]
  show G _ _ _ _ _ _ _ _ _ _ _ _ _
  exact l_X6_cutUp hB0 hW hq N.toNat 0 _ (by omega) (fun j hj => absurd hj (Nat.not_lt_zero _)) (TkR_F R1 (by decide)) setF_at (by rw [setF_ne (by decide), setF_ne (by decide), setF_at]; rfl) (fun j hj => absurd hj (Nat.not_lt_zero _))
set_option maxRecDepth 100000 in
set_option maxHeartbeats 4000000 in
theorem c_X6_token {g : GC} {sh : SH} {S : SS} {n : Nat} {N : Int} {B : Int → Int} {k : Nat} {Q : Option Value → GA → Nat → Prop} (hW : TaW sh S N) (hT : TkW S N B) (hk : k ≤ 1000) (hq : Q (some (.int (iI (tkk B k)))) (hp g sh S) n) : GCall g mX6_token 1 0 0 [gr g 5, .int (iI k)] (hp g sh S) n Q := by
  have hW' := hW
  obtain ⟨h5, q0, q2, q3, h6, h7, h8, e1, hN, hby⟩ := hW'
  obtain ⟨T, t4, tT, ta, tb, tc⟩ := hT
  refine GCall.of (by decide) (Nat.le_of_ble_eq_true rfl) (ls := [(0, _), (1, _)]) rfl ?_
  by_cases c : k < T
  · have hk := (ta k c).1
    refine G_iload_n (pc := 0) dX6_token_0 rfl ?_
    refine G_if_lt_f (pc := 1) 30 dX6_token_1 rfl (by omega) (by omega) ?_
    refine G_iload_n (pc := 4) dX6_token_4 rfl ?_
    refine S_aload_n (pc := 5) dX6_token_5 rfl ?_
    refine S_getI (pc := 6) dX6_token_6 fX6_26 (by assumption) rfl ?_
    rw [t4]
    refine G_icmp_ge_f (pc := 9) 30 dX6_token_9 rfl (by omega) (by omega) ?_
    refine G_iload_n (pc := 12) dX6_token_12 rfl ?_
    refine S_aload_n (pc := 13) dX6_token_13 rfl ?_
    refine S_getR (pc := 14) dX6_token_14 fX6_15 (by assumption) rfl (by assumption) ?_
    refine S_alen (pc := 17) dX6_token_17 (Or.inl (by assumption)) ?_
    refine G_icmp_ge_f (pc := 18) 30 dX6_token_18 rfl (by omega) (by omega) ?_
    refine S_aload_n (pc := 21) dX6_token_21 rfl ?_
    refine S_getR (pc := 22) dX6_token_22 fX6_15 (by assumption) rfl (by assumption) ?_
    refine G_iload_n (pc := 25) dX6_token_25 rfl ?_
    refine S_iald (pc := 26) dX6_token_26 (by assumption) (by omega) ?_
    rw [hk]
    refine G_goto (pc := 27) 33 dX6_token_27 rfl ?_
    refine G_iret (pc := 33) dX6_token_33 rfl (by decide) ?_
    exact hq
  · rw [(tc k (by omega)).1] at hq
    refine G_iload_n (pc := 0) dX6_token_0 rfl ?_
    refine G_if_lt_f (pc := 1) 30 dX6_token_1 rfl (by omega) (by omega) ?_
    refine G_iload_n (pc := 4) dX6_token_4 rfl ?_
    refine S_aload_n (pc := 5) dX6_token_5 rfl ?_
    refine S_getI (pc := 6) dX6_token_6 fX6_26 (by assumption) rfl ?_
    rw [t4]
    refine G_icmp_ge_t (pc := 9) 30 dX6_token_9 rfl (by omega) (by omega) ?_
    refine G_sipush (pc := 30) dX6_token_30 rfl ?_
    refine G_iret (pc := 33) dX6_token_33 rfl (by decide) ?_
    exact hq
set_option maxRecDepth 100000 in
set_option maxHeartbeats 4000000 in
theorem c_X6_start {g : GC} {sh : SH} {S : SS} {n : Nat} {N : Int} {B : Int → Int} {k : Nat} {Q : Option Value → GA → Nat → Prop} (hW : TaW sh S N) (hT : TkW S N B) (hk : k ≤ 1000) (hq : Q (some (.int (iI (tka N B k)))) (hp g sh S) n) : GCall g mX6_start 1 0 0 [gr g 5, .int (iI k)] (hp g sh S) n Q := by
  have hW' := hW
  obtain ⟨h5, q0, q2, q3, h6, h7, h8, e1, hN, hby⟩ := hW'
  obtain ⟨T, t4, tT, ta, tb, tc⟩ := hT
  refine GCall.of (by decide) (Nat.le_of_ble_eq_true rfl) (ls := [(0, _), (1, _)]) rfl ?_
  by_cases c : k < T
  · have hk := (ta k c).2
    refine G_iload_n (pc := 0) dX6_start_0 rfl ?_
    refine G_if_lt_f (pc := 1) 30 dX6_start_1 rfl (by omega) (by omega) ?_
    refine G_iload_n (pc := 4) dX6_start_4 rfl ?_
    refine S_aload_n (pc := 5) dX6_start_5 rfl ?_
    refine S_getI (pc := 6) dX6_start_6 fX6_26 (by assumption) rfl ?_
    rw [t4]
    refine G_icmp_ge_f (pc := 9) 30 dX6_start_9 rfl (by omega) (by omega) ?_
    refine G_iload_n (pc := 12) dX6_start_12 rfl ?_
    refine S_aload_n (pc := 13) dX6_start_13 rfl ?_
    refine S_getR (pc := 14) dX6_start_14 fX6_19 (by assumption) rfl (by assumption) ?_
    refine S_alen (pc := 17) dX6_start_17 (Or.inl (by assumption)) ?_
    refine G_icmp_ge_f (pc := 18) 30 dX6_start_18 rfl (by omega) (by omega) ?_
    refine S_aload_n (pc := 21) dX6_start_21 rfl ?_
    refine S_getR (pc := 22) dX6_start_22 fX6_19 (by assumption) rfl (by assumption) ?_
    refine G_iload_n (pc := 25) dX6_start_25 rfl ?_
    refine S_iald (pc := 26) dX6_start_26 (by assumption) (by omega) ?_
    rw [hk]
    refine G_goto (pc := 27) 34 dX6_start_27 rfl ?_
    refine G_iret (pc := 34) dX6_start_34 rfl (by decide) ?_
    exact hq
  · rw [(tc k (by omega)).2] at hq
    refine G_iload_n (pc := 0) dX6_start_0 rfl ?_
    refine G_if_lt_f (pc := 1) 30 dX6_start_1 rfl (by omega) (by omega) ?_
    refine G_iload_n (pc := 4) dX6_start_4 rfl ?_
    refine S_aload_n (pc := 5) dX6_start_5 rfl ?_
    refine S_getI (pc := 6) dX6_start_6 fX6_26 (by assumption) rfl ?_
    rw [t4]
    refine G_icmp_ge_t (pc := 9) 30 dX6_start_9 rfl (by omega) (by omega) ?_
    refine S_aload_n (pc := 30) dX6_start_30 rfl ?_
    refine S_getI (pc := 31) dX6_start_31 fX6_22 (by assumption) rfl ?_
    rw [e1]
    refine G_iret (pc := 34) dX6_start_34 rfl (by decide) ?_
    exact hq
