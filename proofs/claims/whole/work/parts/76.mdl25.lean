/-! the Model: byteAt, next, fail, isWord, isSign, opens, name -/
def MtX (sh : SH) (S : SS) (N : Int) (B : Int → Int) : Prop := sh 96 = some (.inl 10) ∧ S.2.2 96 9 = some 102 ∧ sh 102 = some (.inr (1, 960)) ∧ IsB N B ∧ S.1 96 16 = N ∧ (0 ≤ S.1 96 15 ∧ S.1 96 15 ≤ 800) ∧ ∀ i : Int, 0 ≤ i → i < N → S.2.1 102 (S.1 96 15 + i) = B i
/-- what reading a TEXT changes; what the next token's reading changes -/
def GrS (S S' : SS) : Prop := S'.2 = S.2 ∧ ∀ a k : Nat, (a ≠ 96 ∨ k < 17 ∨ 23 < k) → S'.1 a k = S.1 a k
def GrN (S S' : SS) : Prop := S'.2 = S.2 ∧ ∀ a k : Nat, (a ≠ 96 ∨ k < 17 ∨ 20 < k) → S'.1 a k = S.1 a k
theorem GrS_rf {S : SS} : GrS S S := ⟨rfl, fun _ _ _ => rfl⟩
theorem GrN_rf {S : SS} : GrN S S := ⟨rfl, fun _ _ _ => rfl⟩
theorem GrS_tr {S S' S'' : SS} (h : GrS S S') (h' : GrS S' S'') : GrS S S'' := ⟨h'.1.trans h.1, fun a k q => (h'.2 a k q).trans (h.2 a k q)⟩
theorem GrN_tr {S S' S'' : SS} (h : GrN S S') (h' : GrN S' S'') : GrN S S'' := ⟨h'.1.trans h.1, fun a k q => (h'.2 a k q).trans (h.2 a k q)⟩
theorem GrN_S {S S' : SS} (h : GrN S S') : GrS S S' := ⟨h.1, fun a k q => h.2 a k (by omega)⟩
theorem GrS_F {S S' : SS} {k : Nat} {v : Int} (h : GrS S S') (hk : 17 ≤ k ∧ k ≤ 23) : GrS S (setF S' 96 k v) := ⟨h.1, fun a j q => (setF_ne (by omega)).trans (h.2 a j q)⟩
theorem GrN_F {S S' : SS} {k : Nat} {v : Int} (h : GrN S S') (hk : 17 ≤ k ∧ k ≤ 20) : GrN S (setF S' 96 k v) := ⟨h.1, fun a j q => (setF_ne (by omega)).trans (h.2 a j q)⟩
theorem GrS_scr {S S' : SS} (h : GrS S S') : MScr S S' := ⟨fun a k q => h.2 a k (by omega), congrArg (·.2) h.1, fun b _ => by rw [h.1], fun r _ _ => by unfold mg; rw [h.1], fun z => by rw [h.1]; exact z⟩
theorem MtX_gr {sh : SH} {S S' : SS} {N : Int} {B : Int → Int} (h : GrS S S') (hX : MtX sh S N B) : MtX sh S' N B := by
  obtain ⟨h96, q9, h102, hB, hN, hf, hb⟩ := hX
  exact ⟨h96, by rw [h.1]; exact q9, h102, hB, by rw [h.2 96 16 (by decide)]; exact hN, by rw [h.2 96 15 (by decide)]; exact hf, by rw [h.2 96 15 (by decide), h.1]; exact hb⟩
set_option maxRecDepth 100000 in
set_option maxHeartbeats 4000000 in
theorem c_X10_byteAt {g : GC} {sh : SH} {S : SS} {n : Nat} {N i : Int} {B : Int → Int} {Q : Option Value → GA → Nat → Prop} (hX : MtX sh S N B) (hi : 0 ≤ i ∧ i ≤ 1000) (hq : Q (some (.int (iI (B i)))) (hp g sh S) n) : GCall g mX10_byteAt 1 0 0 [gr g 96, .int (iI i)] (hp g sh S) n Q := by
  obtain ⟨h96, q9, h102, hB, hN, hf, hb⟩ := hX
  have h160 := hB.1
  refine GCall.of (by decide) (Nat.le_of_ble_eq_true rfl) (ls := [(0, _), (1, _)]) rfl ?_
  refine G_iload_n (pc := 0) dX10_byteAt_0 rfl ?_
  refine S_aload_n (pc := 1) dX10_byteAt_1 rfl ?_
  refine S_getI (pc := 2) dX10_byteAt_2 fX10_168 (by assumption) rfl ?_
  rw [hN]
  refine G_icmp_ge (pc := 5) 22 dX10_byteAt_5 rfl (by omega) (fun c5 => ?_) (fun c5 => ?_)
  · skip
    refine G_iconst (pc := 22) dX10_byteAt_22 ?_
    refine G_iret (pc := 23) dX10_byteAt_23 rfl (by decide) ?_
    first
      | exact Q_i (hb i hi.1 (by omega)) hq
      | exact Q_i (hB.2.1 i (by omega)).symm hq
  · skip
    refine S_aload_n (pc := 8) dX10_byteAt_8 rfl ?_
    refine S_getR (pc := 9) dX10_byteAt_9 fX10_30 (by assumption) rfl (by assumption) ?_
    refine S_aload_n (pc := 12) dX10_byteAt_12 rfl ?_
    refine S_getI (pc := 13) dX10_byteAt_13 fX10_171 (by assumption) rfl ?_
    refine G_iload_n (pc := 16) dX10_byteAt_16 rfl ?_
    refine G_iadd (pc := 17) dX10_byteAt_17 ?_
    refine S_iald (pc := 18) dX10_byteAt_18 (by assumption) (by omega) ?_
    refine G_goto (pc := 19) 23 dX10_byteAt_19 rfl ?_
    refine G_iret (pc := 23) dX10_byteAt_23 rfl (by decide) ?_
    first
      | exact Q_i (hb i hi.1 (by omega)) hq
      | exact Q_i (hB.2.1 i (by omega)).symm hq
def TokR (t w c : Int) : Prop := (c = 256 ∧ t = 0) ∨ (isg c = true ∧ t = 3 ∧ w = c) ∨ ((1000 ≤ c ∧ c ≤ 10999) ∧ t = 2 ∧ w = c - 1000) ∨ (t = 1 ∧ c = wco w ∧ -1 ≤ w ∧ w ≤ 14348907) ∨ (t = 4 ∧ c = 257)
theorem wco_cod {w : Int} : (257 ≤ wco w ∧ wco w ≤ 275) ∧ wco w ≠ 258 ∧ wco w ≠ 259 := by
  unfold wco
  repeat' split
  all_goals omega
theorem TokR_t {t w c : Int} (h : TokR t w c) : 0 ≤ t ∧ t ≤ 4 := by
  rcases h with h | h | h | h | h <;> omega
theorem whs_bd {B : Int → Int} {h : Int} {n : Nat} (hl : ∀ i : Int, h ≤ i → i < h + n → 97 ≤ B i ∧ B i ≤ 122) : -1 ≤ whs B h n ∧ whs B h n ≤ 14348907 := by
  by_cases h6 : 5 < n
  · obtain ⟨m, rfl⟩ : ∃ m : Nat, n = m + 1 := ⟨n - 1, by omega⟩
    have e : whs B h (m + 1) = -1 := if_neg (by omega)
    omega
  · have w0 : whs B h 0 = 0 := rfl
    have w1 : whs B h 1 = 27 * whs B h 0 + B h - 96 := by
      show (if 0 < 5 then 27 * 0 + B (h + ((0 : Nat) : Int)) - 96 else -1) = _
      rw [if_pos (by decide), show h + ((0 : Nat) : Int) = h by omega]; omega
    have w2 : whs B h 2 = 27 * whs B h 1 + B (h + 1) - 96 := if_pos (by decide)
    have w3 : whs B h 3 = 27 * whs B h 2 + B (h + 2) - 96 := if_pos (by decide)
    have w4 : whs B h 4 = 27 * whs B h 3 + B (h + 3) - 96 := if_pos (by decide)
    have w5 : whs B h 5 = 27 * whs B h 4 + B (h + 4) - 96 := if_pos (by decide)
    have hn5 : n = 0 ∨ n = 1 ∨ n = 2 ∨ n = 3 ∨ n = 4 ∨ n = 5 := by omega
    have l0 : 1 ≤ n → 97 ≤ B h ∧ B h ≤ 122 := fun z => hl h (by omega) (by omega)
    have l1 : 2 ≤ n → 97 ≤ B (h + 1) ∧ B (h + 1) ≤ 122 := fun z => hl _ (by omega) (by omega)
    have l2 : 3 ≤ n → 97 ≤ B (h + 2) ∧ B (h + 2) ≤ 122 := fun z => hl _ (by omega) (by omega)
    have l3 : 4 ≤ n → 97 ≤ B (h + 3) ∧ B (h + 3) ≤ 122 := fun z => hl _ (by omega) (by omega)
    have l4 : 5 ≤ n → 97 ≤ B (h + 4) ∧ B (h + 4) ≤ 122 := fun z => hl _ (by omega) (by omega)
    rcases hn5 with e | e | e | e | e | e <;> subst e <;> omega
set_option maxRecDepth 100000 in
set_option maxHeartbeats 4000000 in
theorem l_X10_nextB {g : GC} {sh : SH} {S0 : SS} {n : Nat} {N : Int} {B : Int → Int} {e : Int} {Q : Option Value → GA → Nat → Prop}
    (K : ∀ S : SS, GrN S0 S → MtX sh S N B → S.1 96 20 = e → ¬ isb (B e) = true → G g mX10_next 2 0 0 39 [(0, gr g 96)] [] (hp g sh S) n 0 0 Q) :
    ∀ (k : Nat) (h : Int) (S : SS), N - h ≤ k → (0 ≤ h ∧ h ≤ N) → GrN S0 S → MtX sh S N B → S.1 96 20 = h → spn isb B 161 h = e → G g mX10_next 2 0 0 0 [(0, gr g 96)] [] (hp g sh S) n 0 0 Q := by
  intro k
  induction k with
  | zero =>
    intro h S hk hh hR hX h20 he
    have hX' := hX
    obtain ⟨h96, q9, h102, hB, hN, hf, hb⟩ := hX'
    have h160 := hB.1
    have e1 : B h = -1 := hB.2.1 h (by omega)
    have e2 : spn isb B 161 h = h := spn_at (by rw [e1]; decide)
    refine S_aload_n (pc := 0) dX10_next_0 rfl ?_
    refine S_aload_n (pc := 1) dX10_next_1 rfl ?_
    refine S_getI (pc := 2) dX10_next_2 fX10_174 (by assumption) rfl ?_
    rw [h20]
    refine S_callV (pc := 5) (ci := 10) (d2 := 1) (mc2 := 0) (ms2 := 0) (As := [_]) dX10_next_5 kX10_byteAt lkX10_177 (by assumption) rfl rfl rfl (Nat.le_of_ble_eq_true rfl) ⟨by decide, by decide⟩ (by decide) ?_
    refine c_X10_byteAt hX (by omega) ?_
    rw [e1]
    show G _ _ _ _ _ _ _ _ _ _ _ _ _
    refine G_bipush (pc := 8) dX10_next_8 rfl ?_
    refine G_icmp_eq_f (pc := 10) 26 dX10_next_10 rfl (by omega) (by omega) ?_
    refine S_aload_n (pc := 13) dX10_next_13 rfl ?_
    refine S_aload_n (pc := 14) dX10_next_14 rfl ?_
    refine S_getI (pc := 15) dX10_next_15 fX10_174 (by assumption) rfl ?_
    rw [h20]
    refine S_callV (pc := 18) (ci := 10) (d2 := 1) (mc2 := 0) (ms2 := 0) (As := [_]) dX10_next_18 kX10_byteAt lkX10_177 (by assumption) rfl rfl rfl (Nat.le_of_ble_eq_true rfl) ⟨by decide, by decide⟩ (by decide) ?_
    refine c_X10_byteAt hX (by omega) ?_
    rw [e1]
    show G _ _ _ _ _ _ _ _ _ _ _ _ _
    refine G_bipush (pc := 21) dX10_next_21 rfl ?_
    refine G_icmp_ne_t (pc := 23) 39 dX10_next_23 rfl (by omega) (by omega) ?_
    exact K S hR hX (by omega) (by rw [← he, e2, e1]; decide)
  | succ k ih =>
    intro h S hk hh hR hX h20 he
    have hX' := hX
    obtain ⟨h96, q9, h102, hB, hN, hf, hb⟩ := hX'
    have h160 := hB.1
    by_cases c : isb (B h) = true
    · have hc := isb_iff.mp c
      have hlt : h < N := by
        by_cases z : N ≤ h
        · have := hB.2.1 h z; omega
        · omega
      have hn := ih (h + 1) (setF S 96 20 (h + 1)) (by omega) (by omega) (GrN_F hR (by decide)) (MtX_gr (GrS_F GrS_rf (by decide)) hX) setF_at (by rw [← spn_step hB (by decide) hh.1 c]; exact he)
      refine S_aload_n (pc := 0) dX10_next_0 rfl ?_
      refine S_aload_n (pc := 1) dX10_next_1 rfl ?_
      refine S_getI (pc := 2) dX10_next_2 fX10_174 (by assumption) rfl ?_
      rw [h20]
      refine S_callV (pc := 5) (ci := 10) (d2 := 1) (mc2 := 0) (ms2 := 0) (As := [_]) dX10_next_5 kX10_byteAt lkX10_177 (by assumption) rfl rfl rfl (Nat.le_of_ble_eq_true rfl) ⟨by decide, by decide⟩ (by decide) ?_
      refine c_X10_byteAt hX (by omega) ?_
      show G _ _ _ _ _ _ _ _ _ _ _ _ _
      refine G_bipush (pc := 8) dX10_next_8 rfl ?_
      refine G_icmp_eq (pc := 10) 26 dX10_next_10 rfl (by omega) (fun c10 => ?_) (fun c10 => ?_)
      · skip
        refine S_aload_n (pc := 26) dX10_next_26 rfl ?_
        refine G_dup (pc := 27) dX10_next_27 rfl ?_
        refine S_getI (pc := 28) dX10_next_28 fX10_174 (by assumption) rfl ?_
        rw [h20]
        refine G_iconst (pc := 31) dX10_next_31 ?_
        refine G_iadd (pc := 32) dX10_next_32 ?_
        refine S_putI (pc := 33) dX10_next_33 fX10_174 (by assumption) rfl ⟨rfl, rfl⟩ ?_
        refine G_goto (pc := 36) 0 dX10_next_36 rfl ?_
        exact hn
      · skip
        refine S_aload_n (pc := 13) dX10_next_13 rfl ?_
        refine S_aload_n (pc := 14) dX10_next_14 rfl ?_
        refine S_getI (pc := 15) dX10_next_15 fX10_174 (by assumption) rfl ?_
        rw [h20]
        refine S_callV (pc := 18) (ci := 10) (d2 := 1) (mc2 := 0) (ms2 := 0) (As := [_]) dX10_next_18 kX10_byteAt lkX10_177 (by assumption) rfl rfl rfl (Nat.le_of_ble_eq_true rfl) ⟨by decide, by decide⟩ (by decide) ?_
        refine c_X10_byteAt hX (by omega) ?_
        show G _ _ _ _ _ _ _ _ _ _ _ _ _
        refine G_bipush (pc := 21) dX10_next_21 rfl ?_
        refine G_icmp_ne (pc := 23) 39 dX10_next_23 rfl (by omega) (fun c23 => ?_) (fun c23 => ?_)
        · skip
          exact absurd hc (by omega)
        · skip
          refine S_aload_n (pc := 26) dX10_next_26 rfl ?_
          refine G_dup (pc := 27) dX10_next_27 rfl ?_
          refine S_getI (pc := 28) dX10_next_28 fX10_174 (by assumption) rfl ?_
          rw [h20]
          refine G_iconst (pc := 31) dX10_next_31 ?_
          refine G_iadd (pc := 32) dX10_next_32 ?_
          refine S_putI (pc := 33) dX10_next_33 fX10_174 (by assumption) rfl ⟨rfl, rfl⟩ ?_
          refine G_goto (pc := 36) 0 dX10_next_36 rfl ?_
          exact hn
    · have hc : ¬ (B h = 32 ∨ B h = 10) := fun z => c (isb_iff.mpr z)
      have e2 : spn isb B 161 h = h := spn_at c
      have hbb : -1 ≤ B h ∧ B h ≤ 255 := by
        by_cases z : N ≤ h
        · have := hB.2.1 h z; omega
        · have := hB.2.2 h hh.1 (by omega); omega
      refine S_aload_n (pc := 0) dX10_next_0 rfl ?_
      refine S_aload_n (pc := 1) dX10_next_1 rfl ?_
      refine S_getI (pc := 2) dX10_next_2 fX10_174 (by assumption) rfl ?_
      rw [h20]
      refine S_callV (pc := 5) (ci := 10) (d2 := 1) (mc2 := 0) (ms2 := 0) (As := [_]) dX10_next_5 kX10_byteAt lkX10_177 (by assumption) rfl rfl rfl (Nat.le_of_ble_eq_true rfl) ⟨by decide, by decide⟩ (by decide) ?_
      refine c_X10_byteAt hX (by omega) ?_
      show G _ _ _ _ _ _ _ _ _ _ _ _ _
      refine G_bipush (pc := 8) dX10_next_8 rfl ?_
      refine G_icmp_eq_f (pc := 10) 26 dX10_next_10 rfl (by omega) (by omega) ?_
      refine S_aload_n (pc := 13) dX10_next_13 rfl ?_
      refine S_aload_n (pc := 14) dX10_next_14 rfl ?_
      refine S_getI (pc := 15) dX10_next_15 fX10_174 (by assumption) rfl ?_
      rw [h20]
      refine S_callV (pc := 18) (ci := 10) (d2 := 1) (mc2 := 0) (ms2 := 0) (As := [_]) dX10_next_18 kX10_byteAt lkX10_177 (by assumption) rfl rfl rfl (Nat.le_of_ble_eq_true rfl) ⟨by decide, by decide⟩ (by decide) ?_
      refine c_X10_byteAt hX (by omega) ?_
      show G _ _ _ _ _ _ _ _ _ _ _ _ _
      refine G_bipush (pc := 21) dX10_next_21 rfl ?_
      refine G_icmp_ne_t (pc := 23) 39 dX10_next_23 rfl (by omega) (by omega) ?_
      exact K S hR hX (by omega) (by rw [← he, e2]; exact c)
set_option maxRecDepth 100000 in
set_option maxHeartbeats 4000000 in
theorem l_X10_nextL {g : GC} {sh : SH} {S0 : SS} {n : Nat} {N h : Int} {B : Int → Int} {bv : Int} {Q : Option Value → GA → Nat → Prop} (h0 : 0 ≤ h)
    (hq : ∀ (S : SS) (m : Nat), GrN S0 S → h + m = spn isl B 161 h → S.1 96 17 = 1 → S.1 96 19 = whs B h m → S.1 96 18 = S0.1 96 18 → S.1 96 20 = h + m → Q none (hp g sh S) n) :
    ∀ (k m : Nat) (S : SS), N - (h + m) ≤ k → h + m ≤ N → (∀ i : Int, h ≤ i → i < h + m → 97 ≤ B i ∧ B i ≤ 122) → GrN S0 S → MtX sh S N B → S.1 96 17 = 1 → S.1 96 19 = whs B h m → S.1 96 18 = S0.1 96 18 → S.1 96 20 = h + m → spn isl B 161 (h + m) = spn isl B 161 h → G g mX10_next 2 0 0 104 [(2, .int (iI m)), (1, .int (iI bv)), (0, gr g 96)] [] (hp g sh S) n 0 0 Q := by
  have hstop : ∀ (m : Nat) (S : SS), h + m ≤ N → GrN S0 S → MtX sh S N B → S.1 96 17 = 1 → S.1 96 19 = whs B h m → S.1 96 18 = S0.1 96 18 → S.1 96 20 = h + m → spn isl B 161 (h + m) = spn isl B 161 h → ¬ isl (B (h + m)) = true → G g mX10_next 2 0 0 104 [(2, .int (iI m)), (1, .int (iI bv)), (0, gr g 96)] [] (hp g sh S) n 0 0 Q := by
    intro m S hm hR hX h17 h19 h18 h20 he c
    have hX' := hX
    obtain ⟨h96, q9, h102, hB, hN, hf, hb⟩ := hX'
    have h160 := hB.1
    have hc : ¬ (97 ≤ B (h + m) ∧ B (h + m) ≤ 122) := fun z => c (isl_iff.mpr z)
    have hbb : -1 ≤ B (h + m) ∧ B (h + m) ≤ 255 := by
      by_cases z : N ≤ h + m
      · have := hB.2.1 _ z; omega
      · have := hB.2.2 (h + m) (by omega) (by omega); omega
    refine S_aload_n (pc := 104) dX10_next_104 rfl ?_
    refine S_aload_n (pc := 105) dX10_next_105 rfl ?_
    refine S_getI (pc := 106) dX10_next_106 fX10_174 (by assumption) rfl ?_
    rw [h20]
    refine S_callV (pc := 109) (ci := 10) (d2 := 1) (mc2 := 0) (ms2 := 0) (As := [_]) dX10_next_109 kX10_byteAt lkX10_177 (by assumption) rfl rfl rfl (Nat.le_of_ble_eq_true rfl) ⟨by decide, by decide⟩ (by decide) ?_
    refine c_X10_byteAt hX (by omega) ?_
    show G _ _ _ _ _ _ _ _ _ _ _ _ _
    refine G_bipush (pc := 112) dX10_next_112 rfl ?_
    refine G_bipush (pc := 114) dX10_next_114 rfl ?_
    refine G_callS (pc := 116) (d2 := 1) (mc2 := 0) (ms2 := 0) (As := [_, _, _]) dX10_next_116 kX10_in lkX10_86 rfl rfl (Nat.le_of_ble_eq_true rfl) ⟨by decide, by decide⟩ (by decide) ?_
    refine c_X10_in (by omega) (fun w => absurd w hc) (fun w => ?_)
    · show G _ _ _ _ _ _ _ _ _ _ _ _ _
      refine G_if_eq_t (pc := 119) 170 dX10_next_119 rfl (by decide) (by decide) ?_
      refine G_goto (pc := 170) 350 dX10_next_170 rfl ?_
      refine G_vret (pc := 350) dX10_next_350 rfl (by decide) ?_
      exact hq S m hR (by rw [← he]; exact (spn_at c).symm) h17 h19 h18 h20
  intro k
  induction k with
  | zero =>
    intro m S hk hm hl hR hX h17 h19 h18 h20 he
    exact hstop m S hm hR hX h17 h19 h18 h20 he (by rw [hX.2.2.2.1.2.1 (h + m) (by omega)]; decide)
  | succ k ih =>
    intro m S hk hm hl hR hX h17 h19 h18 h20 he
    by_cases c : isl (B (h + m)) = true
    · have hX' := hX
      obtain ⟨h96, q9, h102, hB, hN, hf, hb⟩ := hX'
      have h160 := hB.1
      have hc := isl_iff.mp c
      have hlt : h + m < N := by
        by_cases z : N ≤ h + m
        · have := hB.2.1 _ z; omega
        · omega
      have hn : ∀ v : Int, v = whs B h (m + 1) → G g mX10_next 2 0 0 104 [(2, .int (iI (m + 1))), (1, .int (iI bv)), (0, gr g 96)] [] (hp g sh (setF (setF S 96 19 v) 96 20 (h + m + 1))) n 0 0 Q := fun v hv => by
        have := ih (m + 1) (setF (setF S 96 19 v) 96 20 (h + m + 1)) (by omega) (by omega) (fun i a b => by
          by_cases z : i = h + m
          · rw [z]; exact hc
          · exact hl i a (by omega)) (GrN_F (GrN_F hR (by decide)) (by decide)) (MtX_gr (GrS_F (GrS_F GrS_rf (by decide)) (by decide)) hX) (by rw [setF_ne (by decide), setF_ne (by decide)]; exact h17) (by rw [setF_ne (by decide), setF_at]; exact hv) (by rw [setF_ne (by decide), setF_ne (by decide)]; exact h18) (by rw [setF_at]; omega) (by rw [show h + ((m + 1 : Nat) : Int) = h + m + 1 by omega, ← spn_step hB (by decide) (by omega) c]; exact he)
        rw [show ((m + 1 : Nat) : Int) = m + 1 by omega] at this
        exact this
      have e20 : ∀ v : Int, (setF S 96 19 v).1 96 20 = h + m := fun v => by rw [setF_ne (by decide)]; exact h20
      by_cases c5 : m < 5
      · have hn2 := hn (27 * whs B h m + B (h + m) - 96) (if_pos c5).symm
        refine S_aload_n (pc := 104) dX10_next_104 rfl ?_
        refine S_aload_n (pc := 105) dX10_next_105 rfl ?_
        refine S_getI (pc := 106) dX10_next_106 fX10_174 (by assumption) rfl ?_
        rw [h20]
        refine S_callV (pc := 109) (ci := 10) (d2 := 1) (mc2 := 0) (ms2 := 0) (As := [_]) dX10_next_109 kX10_byteAt lkX10_177 (by assumption) rfl rfl rfl (Nat.le_of_ble_eq_true rfl) ⟨by decide, by decide⟩ (by decide) ?_
        refine c_X10_byteAt hX (by omega) ?_
        show G _ _ _ _ _ _ _ _ _ _ _ _ _
        refine G_bipush (pc := 112) dX10_next_112 rfl ?_
        refine G_bipush (pc := 114) dX10_next_114 rfl ?_
        refine G_callS (pc := 116) (d2 := 1) (mc2 := 0) (ms2 := 0) (As := [_, _, _]) dX10_next_116 kX10_in lkX10_86 rfl rfl (Nat.le_of_ble_eq_true rfl) ⟨by decide, by decide⟩ (by decide) ?_
        refine c_X10_in (by omega) (fun w => ?_) (fun w => absurd hc w)
        · show G _ _ _ _ _ _ _ _ _ _ _ _ _
          refine G_if_eq_f (pc := 119) 170 dX10_next_119 rfl (by decide) (by decide) ?_
          refine S_aload_n (pc := 122) dX10_next_122 rfl ?_
          refine G_iload_n (pc := 123) dX10_next_123 rfl ?_
          refine G_iconst (pc := 124) dX10_next_124 ?_
          refine G_icmp_ge_f (pc := 125) 150 dX10_next_125 rfl (by omega) (by omega) ?_
          refine G_bipush (pc := 128) dX10_next_128 rfl ?_
          refine S_aload_n (pc := 130) dX10_next_130 rfl ?_
          refine S_getI (pc := 131) dX10_next_131 fX10_186 (by assumption) rfl ?_
          rw [h19]
          refine G_imul (pc := 134) dX10_next_134 ?_
          refine S_aload_n (pc := 135) dX10_next_135 rfl ?_
          refine S_aload_n (pc := 136) dX10_next_136 rfl ?_
          refine S_getI (pc := 137) dX10_next_137 fX10_174 (by assumption) rfl ?_
          rw [h20]
          refine S_callV (pc := 140) (ci := 10) (d2 := 1) (mc2 := 0) (ms2 := 0) (As := [_]) dX10_next_140 kX10_byteAt lkX10_177 (by assumption) rfl rfl rfl (Nat.le_of_ble_eq_true rfl) ⟨by decide, by decide⟩ (by decide) ?_
          refine c_X10_byteAt hX (by omega) ?_
          show G _ _ _ _ _ _ _ _ _ _ _ _ _
          refine G_iadd (pc := 143) dX10_next_143 ?_
          refine G_bipush (pc := 144) dX10_next_144 rfl ?_
          refine G_isub (pc := 146) dX10_next_146 ?_
          refine G_goto (pc := 147) 151 dX10_next_147 rfl ?_
          refine S_putI (pc := 151) dX10_next_151 fX10_186 (by assumption) rfl ⟨rfl, rfl⟩ ?_
          refine G_iinc (pc := 154) (ls' := [(2, _), (1, _), (0, _)]) dX10_next_154 rfl (by decide) rfl ?_
          refine S_aload_n (pc := 157) dX10_next_157 rfl ?_
          refine G_dup (pc := 158) dX10_next_158 rfl ?_
          refine S_getI (pc := 159) dX10_next_159 fX10_174 (by assumption) rfl ?_
          rw [e20]
          refine G_iconst (pc := 162) dX10_next_162 ?_
          refine G_iadd (pc := 163) dX10_next_163 ?_
          refine S_putI (pc := 164) dX10_next_164 fX10_174 (by assumption) rfl ⟨rfl, rfl⟩ ?_
          refine G_goto (pc := 167) 104 dX10_next_167 rfl ?_
          exact hn2
      · have hn2 := hn (-1) (if_neg c5).symm
        refine S_aload_n (pc := 104) dX10_next_104 rfl ?_
        refine S_aload_n (pc := 105) dX10_next_105 rfl ?_
        refine S_getI (pc := 106) dX10_next_106 fX10_174 (by assumption) rfl ?_
        rw [h20]
        refine S_callV (pc := 109) (ci := 10) (d2 := 1) (mc2 := 0) (ms2 := 0) (As := [_]) dX10_next_109 kX10_byteAt lkX10_177 (by assumption) rfl rfl rfl (Nat.le_of_ble_eq_true rfl) ⟨by decide, by decide⟩ (by decide) ?_
        refine c_X10_byteAt hX (by omega) ?_
        show G _ _ _ _ _ _ _ _ _ _ _ _ _
        refine G_bipush (pc := 112) dX10_next_112 rfl ?_
        refine G_bipush (pc := 114) dX10_next_114 rfl ?_
        refine G_callS (pc := 116) (d2 := 1) (mc2 := 0) (ms2 := 0) (As := [_, _, _]) dX10_next_116 kX10_in lkX10_86 rfl rfl (Nat.le_of_ble_eq_true rfl) ⟨by decide, by decide⟩ (by decide) ?_
        refine c_X10_in (by omega) (fun w => ?_) (fun w => absurd hc w)
        · show G _ _ _ _ _ _ _ _ _ _ _ _ _
          refine G_if_eq_f (pc := 119) 170 dX10_next_119 rfl (by decide) (by decide) ?_
          refine S_aload_n (pc := 122) dX10_next_122 rfl ?_
          refine G_iload_n (pc := 123) dX10_next_123 rfl ?_
          refine G_iconst (pc := 124) dX10_next_124 ?_
          refine G_icmp_ge_t (pc := 125) 150 dX10_next_125 rfl (by omega) (by omega) ?_
          refine G_iconst (pc := 150) dX10_next_150 ?_
          refine S_putI (pc := 151) dX10_next_151 fX10_186 (by assumption) rfl ⟨rfl, rfl⟩ ?_
          refine G_iinc (pc := 154) (ls' := [(2, _), (1, _), (0, _)]) dX10_next_154 rfl (by decide) rfl ?_
          refine S_aload_n (pc := 157) dX10_next_157 rfl ?_
          refine G_dup (pc := 158) dX10_next_158 rfl ?_
          refine S_getI (pc := 159) dX10_next_159 fX10_174 (by assumption) rfl ?_
          rw [e20]
          refine G_iconst (pc := 162) dX10_next_162 ?_
          refine G_iadd (pc := 163) dX10_next_163 ?_
          refine S_putI (pc := 164) dX10_next_164 fX10_174 (by assumption) rfl ⟨rfl, rfl⟩ ?_
          refine G_goto (pc := 167) 104 dX10_next_167 rfl ?_
          exact hn2
    · exact hstop m S hm hR hX h17 h19 h18 h20 he c
/-- the number as the Model keeps it: four digits of it -/
def nm4 (B : Int → Int) (h : Int) (m : Nat) : Int := nmb B h (if m < 4 then m else 4)
set_option maxRecDepth 100000 in
set_option maxHeartbeats 4000000 in
theorem l_X10_nextN {g : GC} {sh : SH} {S0 : SS} {n : Nat} {N h : Int} {B : Int → Int} {bv : Int} {Q : Option Value → GA → Nat → Prop} (h0 : 0 ≤ h)
    (hq : ∀ (S : SS) (m : Nat), GrN S0 S → h + m = spn isd B 161 h → S.1 96 17 = (if 4 < m then 4 else 2) → S.1 96 19 = nm4 B h m → S.1 96 18 = S0.1 96 18 → S.1 96 20 = h + m → Q none (hp g sh S) n) :
    ∀ (k m : Nat) (S : SS), N - (h + m) ≤ k → h + m ≤ N → GrN S0 S → MtX sh S N B → S.1 96 17 = 2 → S.1 96 19 = nm4 B h m → S.1 96 18 = S0.1 96 18 → S.1 96 20 = h + m → spn isd B 161 (h + m) = spn isd B 161 h → G g mX10_next 2 0 0 196 [(2, .int (iI m)), (1, .int (iI bv)), (0, gr g 96)] [] (hp g sh S) n 0 0 Q := by
  have hstop : ∀ (m : Nat) (S : SS), h + m ≤ N → GrN S0 S → MtX sh S N B → S.1 96 17 = 2 → S.1 96 19 = nm4 B h m → S.1 96 18 = S0.1 96 18 → S.1 96 20 = h + m → spn isd B 161 (h + m) = spn isd B 161 h → ¬ isd (B (h + m)) = true → G g mX10_next 2 0 0 196 [(2, .int (iI m)), (1, .int (iI bv)), (0, gr g 96)] [] (hp g sh S) n 0 0 Q := by
    intro m S hm hR hX h17 h19 h18 h20 he c
    have hX' := hX
    obtain ⟨h96, q9, h102, hB, hN, hf, hb⟩ := hX'
    have h160 := hB.1
    have hc : ¬ (48 ≤ B (h + m) ∧ B (h + m) ≤ 57) := fun z => c (isd_iff.mpr z)
    have hbb : -1 ≤ B (h + m) ∧ B (h + m) ≤ 255 := by
      by_cases z : N ≤ h + m
      · have := hB.2.1 _ z; omega
      · have := hB.2.2 (h + m) (by omega) (by omega); omega
    refine S_aload_n (pc := 196) dX10_next_196 rfl ?_
    refine S_aload_n (pc := 197) dX10_next_197 rfl ?_
    refine S_getI (pc := 198) dX10_next_198 fX10_174 (by assumption) rfl ?_
    rw [h20]
    refine S_callV (pc := 201) (ci := 10) (d2 := 1) (mc2 := 0) (ms2 := 0) (As := [_]) dX10_next_201 kX10_byteAt lkX10_177 (by assumption) rfl rfl rfl (Nat.le_of_ble_eq_true rfl) ⟨by decide, by decide⟩ (by decide) ?_
    refine c_X10_byteAt hX (by omega) ?_
    show G _ _ _ _ _ _ _ _ _ _ _ _ _
    refine G_bipush (pc := 204) dX10_next_204 rfl ?_
    refine G_bipush (pc := 206) dX10_next_206 rfl ?_
    refine G_callS (pc := 208) (d2 := 1) (mc2 := 0) (ms2 := 0) (As := [_, _, _]) dX10_next_208 kX10_in lkX10_86 rfl rfl (Nat.le_of_ble_eq_true rfl) ⟨by decide, by decide⟩ (by decide) ?_
    refine c_X10_in (by omega) (fun w => absurd w hc) (fun w => ?_)
    · show G _ _ _ _ _ _ _ _ _ _ _ _ _
      refine G_if_eq_t (pc := 211) 265 dX10_next_211 rfl (by decide) (by decide) ?_
      refine S_aload_n (pc := 265) dX10_next_265 rfl ?_
      refine G_iload_n (pc := 266) dX10_next_266 rfl ?_
      refine G_iconst (pc := 267) dX10_next_267 ?_
      refine G_icmp_le (pc := 268) 275 dX10_next_268 rfl (by omega) (fun c268 => ?_) (fun c268 => ?_)
      · skip
        refine G_iconst (pc := 275) dX10_next_275 ?_
        refine S_putI (pc := 276) dX10_next_276 fX10_183 (by assumption) rfl ⟨rfl, rfl⟩ ?_
        refine G_goto (pc := 279) 350 dX10_next_279 rfl ?_
        refine G_vret (pc := 350) dX10_next_350 rfl (by decide) ?_
        refine hq _ m (GrN_F hR (by decide)) (by rw [← he]; exact (spn_at c).symm) (by rw [setF_at]; first | rw [if_pos (by omega)] | rw [if_neg (by omega)]) (by rw [setF_ne (by decide)]; exact h19) (by rw [setF_ne (by decide)]; exact h18) (by rw [setF_ne (by decide)]; exact h20)
      · skip
        refine G_iconst (pc := 271) dX10_next_271 ?_
        refine G_goto (pc := 272) 276 dX10_next_272 rfl ?_
        refine S_putI (pc := 276) dX10_next_276 fX10_183 (by assumption) rfl ⟨rfl, rfl⟩ ?_
        refine G_goto (pc := 279) 350 dX10_next_279 rfl ?_
        refine G_vret (pc := 350) dX10_next_350 rfl (by decide) ?_
        refine hq _ m (GrN_F hR (by decide)) (by rw [← he]; exact (spn_at c).symm) (by rw [setF_at]; first | rw [if_pos (by omega)] | rw [if_neg (by omega)]) (by rw [setF_ne (by decide)]; exact h19) (by rw [setF_ne (by decide)]; exact h18) (by rw [setF_ne (by decide)]; exact h20)
  intro k
  induction k with
  | zero =>
    intro m S hk hm hR hX h17 h19 h18 h20 he
    exact hstop m S hm hR hX h17 h19 h18 h20 he (by rw [hX.2.2.2.1.2.1 (h + m) (by omega)]; decide)
  | succ k ih =>
    intro m S hk hm hR hX h17 h19 h18 h20 he
    by_cases c : isd (B (h + m)) = true
    · have hX' := hX
      obtain ⟨h96, q9, h102, hB, hN, hf, hb⟩ := hX'
      have h160 := hB.1
      have hc := isd_iff.mp c
      have hlt : h + m < N := by
        by_cases z : N ≤ h + m
        · have := hB.2.1 _ z; omega
        · omega
      have hn : ∀ v : Int, v = nm4 B h (m + 1) → G g mX10_next 2 0 0 196 [(2, .int (iI (m + 1))), (1, .int (iI bv)), (0, gr g 96)] [] (hp g sh (setF (setF S 96 19 v) 96 20 (h + m + 1))) n 0 0 Q := fun v hv => by
        have := ih (m + 1) (setF (setF S 96 19 v) 96 20 (h + m + 1)) (by omega) (by omega) (GrN_F (GrN_F hR (by decide)) (by decide)) (MtX_gr (GrS_F (GrS_F GrS_rf (by decide)) (by decide)) hX) (by rw [setF_ne (by decide), setF_ne (by decide)]; exact h17) (by rw [setF_ne (by decide), setF_at]; exact hv) (by rw [setF_ne (by decide), setF_ne (by decide)]; exact h18) (by rw [setF_at]; omega) (by rw [show h + ((m + 1 : Nat) : Int) = h + m + 1 by omega, ← spn_step hB (by decide) (by omega) c]; exact he)
        rw [show ((m + 1 : Nat) : Int) = m + 1 by omega] at this
        exact this
      have e20 : ∀ v : Int, (setF S 96 19 v).1 96 20 = h + m := fun v => by rw [setF_ne (by decide)]; exact h20
      by_cases c5 : m < 4
      · have hn2 := hn (10 * nm4 B h m + B (h + m) - 48) (by
          unfold nm4
          rw [if_pos c5, show (if m + 1 < 4 then m + 1 else 4) = m + 1 by split <;> omega]
          rfl)
        refine S_aload_n (pc := 196) dX10_next_196 rfl ?_
        refine S_aload_n (pc := 197) dX10_next_197 rfl ?_
        refine S_getI (pc := 198) dX10_next_198 fX10_174 (by assumption) rfl ?_
        rw [h20]
        refine S_callV (pc := 201) (ci := 10) (d2 := 1) (mc2 := 0) (ms2 := 0) (As := [_]) dX10_next_201 kX10_byteAt lkX10_177 (by assumption) rfl rfl rfl (Nat.le_of_ble_eq_true rfl) ⟨by decide, by decide⟩ (by decide) ?_
        refine c_X10_byteAt hX (by omega) ?_
        show G _ _ _ _ _ _ _ _ _ _ _ _ _
        refine G_bipush (pc := 204) dX10_next_204 rfl ?_
        refine G_bipush (pc := 206) dX10_next_206 rfl ?_
        refine G_callS (pc := 208) (d2 := 1) (mc2 := 0) (ms2 := 0) (As := [_, _, _]) dX10_next_208 kX10_in lkX10_86 rfl rfl (Nat.le_of_ble_eq_true rfl) ⟨by decide, by decide⟩ (by decide) ?_
        refine c_X10_in (by omega) (fun w => ?_) (fun w => absurd hc w)
        · show G _ _ _ _ _ _ _ _ _ _ _ _ _
          refine G_if_eq_f (pc := 211) 265 dX10_next_211 rfl (by decide) (by decide) ?_
          refine S_aload_n (pc := 214) dX10_next_214 rfl ?_
          refine G_iload_n (pc := 215) dX10_next_215 rfl ?_
          refine G_iconst (pc := 216) dX10_next_216 ?_
          refine G_icmp_ge_f (pc := 217) 242 dX10_next_217 rfl (by omega) (by omega) ?_
          refine G_bipush (pc := 220) dX10_next_220 rfl ?_
          refine S_aload_n (pc := 222) dX10_next_222 rfl ?_
          refine S_getI (pc := 223) dX10_next_223 fX10_186 (by assumption) rfl ?_
          rw [h19]
          refine G_imul (pc := 226) dX10_next_226 ?_
          refine S_aload_n (pc := 227) dX10_next_227 rfl ?_
          refine S_aload_n (pc := 228) dX10_next_228 rfl ?_
          refine S_getI (pc := 229) dX10_next_229 fX10_174 (by assumption) rfl ?_
          rw [h20]
          refine S_callV (pc := 232) (ci := 10) (d2 := 1) (mc2 := 0) (ms2 := 0) (As := [_]) dX10_next_232 kX10_byteAt lkX10_177 (by assumption) rfl rfl rfl (Nat.le_of_ble_eq_true rfl) ⟨by decide, by decide⟩ (by decide) ?_
          refine c_X10_byteAt hX (by omega) ?_
          show G _ _ _ _ _ _ _ _ _ _ _ _ _
          refine G_iadd (pc := 235) dX10_next_235 ?_
          refine G_bipush (pc := 236) dX10_next_236 rfl ?_
          refine G_isub (pc := 238) dX10_next_238 ?_
          refine G_goto (pc := 239) 246 dX10_next_239 rfl ?_
          refine S_putI (pc := 246) dX10_next_246 fX10_186 (by assumption) rfl ⟨rfl, rfl⟩ ?_
          refine G_iinc (pc := 249) (ls' := [(2, _), (1, _), (0, _)]) dX10_next_249 rfl (by decide) rfl ?_
          refine S_aload_n (pc := 252) dX10_next_252 rfl ?_
          refine G_dup (pc := 253) dX10_next_253 rfl ?_
          refine S_getI (pc := 254) dX10_next_254 fX10_174 (by assumption) rfl ?_
          rw [e20]
          refine G_iconst (pc := 257) dX10_next_257 ?_
          refine G_iadd (pc := 258) dX10_next_258 ?_
          refine S_putI (pc := 259) dX10_next_259 fX10_174 (by assumption) rfl ⟨rfl, rfl⟩ ?_
          refine G_goto (pc := 262) 196 dX10_next_262 rfl ?_
          exact hn2
      · have hn2 := hn (nm4 B h m) (by
          unfold nm4
          rw [if_neg c5, if_neg (by omega)])
        refine S_aload_n (pc := 196) dX10_next_196 rfl ?_
        refine S_aload_n (pc := 197) dX10_next_197 rfl ?_
        refine S_getI (pc := 198) dX10_next_198 fX10_174 (by assumption) rfl ?_
        rw [h20]
        refine S_callV (pc := 201) (ci := 10) (d2 := 1) (mc2 := 0) (ms2 := 0) (As := [_]) dX10_next_201 kX10_byteAt lkX10_177 (by assumption) rfl rfl rfl (Nat.le_of_ble_eq_true rfl) ⟨by decide, by decide⟩ (by decide) ?_
        refine c_X10_byteAt hX (by omega) ?_
        show G _ _ _ _ _ _ _ _ _ _ _ _ _
        refine G_bipush (pc := 204) dX10_next_204 rfl ?_
        refine G_bipush (pc := 206) dX10_next_206 rfl ?_
        refine G_callS (pc := 208) (d2 := 1) (mc2 := 0) (ms2 := 0) (As := [_, _, _]) dX10_next_208 kX10_in lkX10_86 rfl rfl (Nat.le_of_ble_eq_true rfl) ⟨by decide, by decide⟩ (by decide) ?_
        refine c_X10_in (by omega) (fun w => ?_) (fun w => absurd hc w)
        · show G _ _ _ _ _ _ _ _ _ _ _ _ _
          refine G_if_eq_f (pc := 211) 265 dX10_next_211 rfl (by decide) (by decide) ?_
          refine S_aload_n (pc := 214) dX10_next_214 rfl ?_
          refine G_iload_n (pc := 215) dX10_next_215 rfl ?_
          refine G_iconst (pc := 216) dX10_next_216 ?_
          refine G_icmp_ge_t (pc := 217) 242 dX10_next_217 rfl (by omega) (by omega) ?_
          refine S_aload_n (pc := 242) dX10_next_242 rfl ?_
          refine S_getI (pc := 243) dX10_next_243 fX10_186 (by assumption) rfl ?_
          rw [h19]
          refine S_putI (pc := 246) dX10_next_246 fX10_186 (by assumption) rfl ⟨rfl, rfl⟩ ?_
          refine G_iinc (pc := 249) (ls' := [(2, _), (1, _), (0, _)]) dX10_next_249 rfl (by decide) rfl ?_
          refine S_aload_n (pc := 252) dX10_next_252 rfl ?_
          refine G_dup (pc := 253) dX10_next_253 rfl ?_
          refine S_getI (pc := 254) dX10_next_254 fX10_174 (by assumption) rfl ?_
          rw [e20]
          refine G_iconst (pc := 257) dX10_next_257 ?_
          refine G_iadd (pc := 258) dX10_next_258 ?_
          refine S_putI (pc := 259) dX10_next_259 fX10_174 (by assumption) rfl ⟨rfl, rfl⟩ ?_
          refine G_goto (pc := 262) 196 dX10_next_262 rfl ?_
          exact hn2
    · exact hstop m S hm hR hX h17 h19 h18 h20 he c
set_option maxRecDepth 100000 in
set_option maxHeartbeats 4000000 in
theorem c_X10_next {g : GC} {sh : SH} {S : SS} {n : Nat} {N h e : Int} {B : Int → Int} {Q : Option Value → GA → Nat → Prop} (hX : MtX sh S N B) (hh : 0 ≤ h ∧ h ≤ N) (h20 : S.1 96 20 = h) (he : spn isb B 161 h = e)
    (hq : ∀ S' : SS, GrN S S' → TokR (S'.1 96 17) (S'.1 96 19) (tkc B e) → S'.1 96 18 = (if B e < 0 then N else e) → (tkc B e ≠ 257 → tkc B e ≠ 256 → S'.1 96 20 = tke B e) → Q none (hp g sh S') n) : GCall g mX10_next 2 0 0 [gr g 96] (hp g sh S) n Q := by
  have hX' := hX
  obtain ⟨h96, q9, h102, hB, hN, hf, hb⟩ := hX'
  have h160 := hB.1
  have he0 := spn_ge (P := isb) (B := B) 161 h
  have he1 := spn_le hB (P := isb) (by decide) 161 h hh.2
  rw [he] at he0 he1
  have hbb : -1 ≤ B e ∧ B e ≤ 255 := by
    by_cases z : N ≤ e
    · have := hB.2.1 _ z; omega
    · have := hB.2.2 e (by omega) (by omega); omega
  have K39 : ∀ S1 : SS, GrN S S1 → MtX sh S1 N B → S1.1 96 20 = e → ¬ isb (B e) = true → G g mX10_next 2 0 0 39 [(0, gr g 96)] [] (hp g sh S1) n 0 0 Q := by
    intro S1 hR hX1 h20' hnb
    have hX1' := hX1
    obtain ⟨-, q9', -, -, hN', hf', hb'⟩ := hX1'
    have e20 : (setF S1 96 18 e).1 96 20 = e := by rw [setF_ne (by decide)]; exact h20'
    have X2 : MtX sh (setF S1 96 18 e) N B := MtX_gr (GrS_F GrS_rf (by decide)) hX1
    have X3 : MtX sh (setF (setF S1 96 18 e) 96 17 4) N B := MtX_gr (GrS_F GrS_rf (by decide)) X2
    have eN : ∀ v : Int, (setF (setF (setF S1 96 18 e) 96 17 4) 96 17 v).1 96 16 = N := fun v => by rw [setF_ne (by decide), setF_ne (by decide), setF_ne (by decide)]; exact hN'
    have K61 : G g mX10_next 2 0 0 61 [(1, .int (iI (B e))), (0, gr g 96)] [] (hp g sh (setF (setF S1 96 18 e) 96 17 4)) n 0 0 Q := by
      by_cases c0 : B e < 0
      · have hc : tkc B e = 256 := if_pos c0
        have hq2 := hq (setF (setF (setF (setF S1 96 18 e) 96 17 4) 96 17 0) 96 18 N) (GrN_F (GrN_F (GrN_F (GrN_F hR (by decide)) (by decide)) (by decide)) (by decide)) (by rw [hc]; exact Or.inl ⟨rfl, by rw [setF_ne (by decide), setF_at]⟩) (by rw [if_pos c0, setF_at]) (fun _ z => absurd hc z)
        refine G_iload_n (pc := 61) dX10_next_61 rfl ?_
        refine G_if_ge_f (pc := 62) 81 dX10_next_62 rfl (by omega) (by omega) ?_
        refine S_aload_n (pc := 65) dX10_next_65 rfl ?_
        refine G_iconst (pc := 66) dX10_next_66 ?_
        refine S_putI (pc := 67) dX10_next_67 fX10_183 (by assumption) rfl ⟨rfl, rfl⟩ ?_
        refine S_aload_n (pc := 70) dX10_next_70 rfl ?_
        refine S_aload_n (pc := 71) dX10_next_71 rfl ?_
        refine S_getI (pc := 72) dX10_next_72 fX10_168 (by assumption) rfl ?_
        rw [eN]
        refine S_putI (pc := 75) dX10_next_75 fX10_180 (by assumption) rfl ⟨rfl, rfl⟩ ?_
        refine G_goto (pc := 78) 350 dX10_next_78 rfl ?_
        refine G_vret (pc := 350) dX10_next_350 rfl (by decide) ?_
        exact hq2
      · have e18 : ∀ S2 : SS, S2.1 96 18 = e → S2.1 96 18 = (if B e < 0 then N else e) := fun S2 z => by rw [if_neg c0]; exact z
        by_cases c1 : isl (B e) = true
        · have hc := isl_iff.mp c1
          have hkc : tkc B e = kon B e (spn isl B 161 e - e) := by unfold tkc; rw [if_neg c0, if_pos c1]
          have hke : tke B e = spn isl B 161 e := by unfold tke; rw [if_neg c0, if_pos c1]
          have h1 := spn_ge (P := isl) (B := B) 161 e
          have hst := spn_step hB (P := isl) (by decide) (by omega) c1
          have h1' := spn_ge (P := isl) (B := B) 161 (e + 1)
          have hl := l_X10_nextL (S0 := setF (setF S1 96 18 e) 96 17 4) (bv := B e) (h := e) (n := n) (Q := Q) (g := g) (sh := sh) (B := B) (N := N) (by omega) (fun S2 m r1 r2 r3 r4 r5 r6 => by
            have hlet : ∀ i : Int, e ≤ i → i < e + m → 97 ≤ B i ∧ B i ≤ 122 := fun i a b => isl_iff.mp (spn_in 161 e i a (by omega))
            have hm : (m : Int) = spn isl B 161 e - e := by omega
            refine hq S2 (GrN_tr (GrN_F (GrN_F hR (by decide)) (by decide)) r1) (Or.inr (Or.inr (Or.inr (Or.inl ⟨r3, ?_, ?_⟩)))) (e18 S2 (by rw [r5, setF_ne (by decide), setF_at])) (fun _ _ => by rw [r6, hke, r2])
            · rw [r4, hkc, ← hm]
              exact (kon_wco hlet (by omega)).symm
            · rw [r4]; exact whs_bd hlet) (N - e).toNat 0 (setF (setF (setF (setF S1 96 18 e) 96 17 4) 96 17 1) 96 19 0) (by omega) (by omega) (fun i a b => absurd b (by omega)) (GrN_F (GrN_F GrN_rf (by decide)) (by decide)) (MtX_gr (GrS_F (GrS_F GrS_rf (by decide)) (by decide)) X3) (by rw [setF_ne (by decide), setF_at]) (by rw [setF_at]; rfl) (by rw [setF_ne (by decide), setF_ne (by decide)]) (by rw [setF_ne (by decide), setF_ne (by decide), setF_ne (by decide), e20]; omega) (by rw [show e + ((0 : Nat) : Int) = e by omega])
          refine G_iload_n (pc := 61) dX10_next_61 rfl ?_
          refine G_if_ge_t (pc := 62) 81 dX10_next_62 rfl (by omega) (by omega) ?_
          refine G_iload_n (pc := 81) dX10_next_81 rfl ?_
          refine G_bipush (pc := 82) dX10_next_82 rfl ?_
          refine G_bipush (pc := 84) dX10_next_84 rfl ?_
          refine G_callS (pc := 86) (d2 := 1) (mc2 := 0) (ms2 := 0) (As := [_, _, _]) dX10_next_86 kX10_in lkX10_86 rfl rfl (Nat.le_of_ble_eq_true rfl) ⟨by decide, by decide⟩ (by decide) ?_
          refine c_X10_in (by omega) (fun w => ?_) (fun w => absurd hc w)
          · show G _ _ _ _ _ _ _ _ _ _ _ _ _
            refine G_if_eq_f (pc := 89) 173 dX10_next_89 rfl (by decide) (by decide) ?_
            refine S_aload_n (pc := 92) dX10_next_92 rfl ?_
            refine G_iconst (pc := 93) dX10_next_93 ?_
            refine S_putI (pc := 94) dX10_next_94 fX10_183 (by assumption) rfl ⟨rfl, rfl⟩ ?_
            refine S_aload_n (pc := 97) dX10_next_97 rfl ?_
            refine G_iconst (pc := 98) dX10_next_98 ?_
            refine S_putI (pc := 99) dX10_next_99 fX10_186 (by assumption) rfl ⟨rfl, rfl⟩ ?_
            refine G_iconst (pc := 102) dX10_next_102 ?_
            refine G_istore_n (pc := 103) (ls' := [(2, _), (1, _), (0, _)]) dX10_next_103 (by decide) rfl ?_
            exact hl
        · have hc1 : ¬ (97 ≤ B e ∧ B e ≤ 122) := fun z => c1 (isl_iff.mpr z)
          by_cases c2 : isd (B e) = true
          · have hc := isd_iff.mp c2
            have hkc : tkc B e = (if 4 < spn isd B 161 e - e then 257 else 1000 + nmb B e (spn isd B 161 e - e).toNat) := by unfold tkc; rw [if_neg c0, if_neg c1, if_pos c2]
            have hke : tke B e = spn isd B 161 e := by unfold tke; rw [if_neg c0, if_neg c1, if_pos c2]
            have hl := l_X10_nextN (S0 := setF (setF S1 96 18 e) 96 17 4) (bv := B e) (h := e) (n := n) (Q := Q) (g := g) (sh := sh) (B := B) (N := N) (by omega) (fun S2 m r1 r2 r3 r4 r5 r6 => by
              have hdig : ∀ i : Int, e ≤ i → i < e + m → 48 ≤ B i ∧ B i ≤ 57 := fun i a b => isd_iff.mp (spn_in 161 e i a (by omega))
              have hm : spn isd B 161 e - e = m := by omega
              refine hq S2 (GrN_tr (GrN_F (GrN_F hR (by decide)) (by decide)) r1) ?_ (e18 S2 (by rw [r5, setF_ne (by decide), setF_at])) (fun _ _ => by rw [r6, hke, r2])
              rw [hkc, hm, r3, r4]
              by_cases c4 : (4 : Int) < m
              · rw [if_pos c4, if_pos (by omega)]
                exact Or.inr (Or.inr (Or.inr (Or.inr ⟨rfl, rfl⟩)))
              · rw [if_neg c4, if_neg (by omega)]
                have e4 : nm4 B e m = nmb B e m := by
                  unfold nm4
                  congr 1
                  split <;> omega
                have g1 := nmb_ge hdig
                have g2 := nmb_le (n := m) (by omega) hdig
                rw [e4, show ((m : Int)).toNat = m by omega]
                exact Or.inr (Or.inr (Or.inl ⟨by omega, rfl, by omega⟩))) (N - e).toNat 0 (setF (setF (setF (setF S1 96 18 e) 96 17 4) 96 17 2) 96 19 0) (by omega) (by omega) (GrN_F (GrN_F GrN_rf (by decide)) (by decide)) (MtX_gr (GrS_F (GrS_F GrS_rf (by decide)) (by decide)) X3) (by rw [setF_ne (by decide), setF_at]) (by rw [setF_at]; rfl) (by rw [setF_ne (by decide), setF_ne (by decide)]) (by rw [setF_ne (by decide), setF_ne (by decide), setF_ne (by decide), e20]; omega) (by rw [show e + ((0 : Nat) : Int) = e by omega])
            refine G_iload_n (pc := 61) dX10_next_61 rfl ?_
            refine G_if_ge_t (pc := 62) 81 dX10_next_62 rfl (by omega) (by omega) ?_
            refine G_iload_n (pc := 81) dX10_next_81 rfl ?_
            refine G_bipush (pc := 82) dX10_next_82 rfl ?_
            refine G_bipush (pc := 84) dX10_next_84 rfl ?_
            refine G_callS (pc := 86) (d2 := 1) (mc2 := 0) (ms2 := 0) (As := [_, _, _]) dX10_next_86 kX10_in lkX10_86 rfl rfl (Nat.le_of_ble_eq_true rfl) ⟨by decide, by decide⟩ (by decide) ?_
            refine c_X10_in (by omega) (fun w => absurd w hc1) (fun w => ?_)
            · show G _ _ _ _ _ _ _ _ _ _ _ _ _
              refine G_if_eq_t (pc := 89) 173 dX10_next_89 rfl (by decide) (by decide) ?_
              refine G_iload_n (pc := 173) dX10_next_173 rfl ?_
              refine G_bipush (pc := 174) dX10_next_174 rfl ?_
              refine G_bipush (pc := 176) dX10_next_176 rfl ?_
              refine G_callS (pc := 178) (d2 := 1) (mc2 := 0) (ms2 := 0) (As := [_, _, _]) dX10_next_178 kX10_in lkX10_86 rfl rfl (Nat.le_of_ble_eq_true rfl) ⟨by decide, by decide⟩ (by decide) ?_
              refine c_X10_in (by omega) (fun w => ?_) (fun w => absurd hc w)
              · show G _ _ _ _ _ _ _ _ _ _ _ _ _
                refine G_if_eq_f (pc := 181) 282 dX10_next_181 rfl (by decide) (by decide) ?_
                refine S_aload_n (pc := 184) dX10_next_184 rfl ?_
                refine G_iconst (pc := 185) dX10_next_185 ?_
                refine S_putI (pc := 186) dX10_next_186 fX10_183 (by assumption) rfl ⟨rfl, rfl⟩ ?_
                refine S_aload_n (pc := 189) dX10_next_189 rfl ?_
                refine G_iconst (pc := 190) dX10_next_190 ?_
                refine S_putI (pc := 191) dX10_next_191 fX10_186 (by assumption) rfl ⟨rfl, rfl⟩ ?_
                refine G_iconst (pc := 194) dX10_next_194 ?_
                refine G_istore_n (pc := 195) (ls' := [(2, _), (1, _), (0, _)]) dX10_next_195 (by decide) rfl ?_
                exact hl
          · have hc2 : ¬ (48 ≤ B e ∧ B e ≤ 57) := fun z => c2 (isd_iff.mpr z)
            by_cases c3 : isg (B e) = true
            · have hc := isg_iff.mp c3
              have hkc : tkc B e = B e := by unfold tkc; rw [if_neg c0, if_neg c1, if_neg c2, if_pos c3]
              have hke : tke B e = e + 1 := by unfold tke; rw [if_neg c0, if_neg c1, if_neg c2]
              have e20b : ∀ a b : Int, (setF (setF (setF (setF S1 96 18 e) 96 17 4) 96 17 a) 96 19 b).1 96 20 = e := fun a b => by rw [setF_ne (by decide), setF_ne (by decide), setF_ne (by decide)]; exact e20
              have hq2 := hq (setF (setF (setF (setF (setF S1 96 18 e) 96 17 4) 96 17 3) 96 19 (B e)) 96 20 (e + 1)) (GrN_F (GrN_F (GrN_F (GrN_F (GrN_F hR (by decide)) (by decide)) (by decide)) (by decide)) (by decide)) (by rw [hkc]; exact Or.inr (Or.inl ⟨c3, by rw [setF_ne (by decide), setF_ne (by decide), setF_at], by rw [setF_ne (by decide), setF_at]⟩)) (e18 _ (by rw [setF_ne (by decide), setF_ne (by decide), setF_ne (by decide), setF_ne (by decide), setF_at])) (fun _ _ => by rw [setF_at, hke])
              have K330 : G g mX10_next 2 0 0 330 [(1, .int (iI (B e))), (0, gr g 96)] [] (hp g sh (setF (setF S1 96 18 e) 96 17 4)) n 0 0 Q := by
                refine S_aload_n (pc := 330) dX10_next_330 rfl ?_
                refine G_iconst (pc := 331) dX10_next_331 ?_
                refine S_putI (pc := 332) dX10_next_332 fX10_183 (by assumption) rfl ⟨rfl, rfl⟩ ?_
                refine S_aload_n (pc := 335) dX10_next_335 rfl ?_
                refine G_iload_n (pc := 336) dX10_next_336 rfl ?_
                refine S_putI (pc := 337) dX10_next_337 fX10_186 (by assumption) rfl ⟨rfl, rfl⟩ ?_
                refine S_aload_n (pc := 340) dX10_next_340 rfl ?_
                refine G_dup (pc := 341) dX10_next_341 rfl ?_
                refine S_getI (pc := 342) dX10_next_342 fX10_174 (by assumption) rfl ?_
                rw [e20b]
                refine G_iconst (pc := 345) dX10_next_345 ?_
                refine G_iadd (pc := 346) dX10_next_346 ?_
                refine S_putI (pc := 347) dX10_next_347 fX10_174 (by assumption) rfl ⟨rfl, rfl⟩ ?_
                refine G_vret (pc := 350) dX10_next_350 rfl (by decide) ?_
                exact hq2
              refine G_iload_n (pc := 61) dX10_next_61 rfl ?_
              refine G_if_ge_t (pc := 62) 81 dX10_next_62 rfl (by omega) (by omega) ?_
              refine G_iload_n (pc := 81) dX10_next_81 rfl ?_
              refine G_bipush (pc := 82) dX10_next_82 rfl ?_
              refine G_bipush (pc := 84) dX10_next_84 rfl ?_
              refine G_callS (pc := 86) (d2 := 1) (mc2 := 0) (ms2 := 0) (As := [_, _, _]) dX10_next_86 kX10_in lkX10_86 rfl rfl (Nat.le_of_ble_eq_true rfl) ⟨by decide, by decide⟩ (by decide) ?_
              refine c_X10_in (by omega) (fun w => absurd w hc1) (fun w => ?_)
              · show G _ _ _ _ _ _ _ _ _ _ _ _ _
                refine G_if_eq_t (pc := 89) 173 dX10_next_89 rfl (by decide) (by decide) ?_
                refine G_iload_n (pc := 173) dX10_next_173 rfl ?_
                refine G_bipush (pc := 174) dX10_next_174 rfl ?_
                refine G_bipush (pc := 176) dX10_next_176 rfl ?_
                refine G_callS (pc := 178) (d2 := 1) (mc2 := 0) (ms2 := 0) (As := [_, _, _]) dX10_next_178 kX10_in lkX10_86 rfl rfl (Nat.le_of_ble_eq_true rfl) ⟨by decide, by decide⟩ (by decide) ?_
                refine c_X10_in (by omega) (fun w => absurd w hc2) (fun w => ?_)
                · show G _ _ _ _ _ _ _ _ _ _ _ _ _
                  refine G_if_eq_t (pc := 181) 282 dX10_next_181 rfl (by decide) (by decide) ?_
                  refine G_iload_n (pc := 282) dX10_next_282 rfl ?_
                  refine G_bipush (pc := 283) dX10_next_283 rfl ?_
                  refine G_icmp_eq (pc := 285) 330 dX10_next_285 rfl (by omega) (fun c285 => ?_) (fun c285 => ?_)
                  · skip
                    exact K330
                  · skip
                    refine G_iload_n (pc := 288) dX10_next_288 rfl ?_
                    refine G_bipush (pc := 289) dX10_next_289 rfl ?_
                    refine G_icmp_eq (pc := 291) 330 dX10_next_291 rfl (by omega) (fun c291 => ?_) (fun c291 => ?_)
                    · skip
                      exact K330
                    · skip
                      refine G_iload_n (pc := 294) dX10_next_294 rfl ?_
                      refine G_bipush (pc := 295) dX10_next_295 rfl ?_
                      refine G_icmp_eq (pc := 297) 330 dX10_next_297 rfl (by omega) (fun c297 => ?_) (fun c297 => ?_)
                      · skip
                        exact K330
                      · skip
                        refine G_iload_n (pc := 300) dX10_next_300 rfl ?_
                        refine G_bipush (pc := 301) dX10_next_301 rfl ?_
                        refine G_icmp_eq (pc := 303) 330 dX10_next_303 rfl (by omega) (fun c303 => ?_) (fun c303 => ?_)
                        · skip
                          exact K330
                        · skip
                          refine G_iload_n (pc := 306) dX10_next_306 rfl ?_
                          refine G_bipush (pc := 307) dX10_next_307 rfl ?_
                          refine G_icmp_eq (pc := 309) 330 dX10_next_309 rfl (by omega) (fun c309 => ?_) (fun c309 => ?_)
                          · skip
                            exact K330
                          · skip
                            refine G_iload_n (pc := 312) dX10_next_312 rfl ?_
                            refine G_bipush (pc := 313) dX10_next_313 rfl ?_
                            refine G_icmp_eq (pc := 315) 330 dX10_next_315 rfl (by omega) (fun c315 => ?_) (fun c315 => ?_)
                            · skip
                              exact K330
                            · skip
                              refine G_iload_n (pc := 318) dX10_next_318 rfl ?_
                              refine G_bipush (pc := 319) dX10_next_319 rfl ?_
                              refine G_icmp_eq (pc := 321) 330 dX10_next_321 rfl (by omega) (fun c321 => ?_) (fun c321 => ?_)
                              · skip
                                exact K330
                              · skip
                                refine G_iload_n (pc := 324) dX10_next_324 rfl ?_
                                refine G_bipush (pc := 325) dX10_next_325 rfl ?_
                                refine G_icmp_ne (pc := 327) 350 dX10_next_327 rfl (by omega) (fun c327 => ?_) (fun c327 => ?_)
                                · skip
                                  exact absurd hc (by omega)
                                · skip
                                  exact K330
            · have hc : ¬ (B e = 40 ∨ B e = 41 ∨ B e = 59 ∨ B e = 43 ∨ B e = 45 ∨ B e = 42 ∨ B e = 60 ∨ B e = 61) := fun z => c3 (isg_iff.mpr z)
              have hkc : tkc B e = 257 := by unfold tkc; rw [if_neg c0, if_neg c1, if_neg c2, if_neg c3]
              have hq2 := hq (setF (setF S1 96 18 e) 96 17 4) (GrN_F (GrN_F hR (by decide)) (by decide)) (by rw [hkc]; exact Or.inr (Or.inr (Or.inr (Or.inr ⟨setF_at, rfl⟩)))) (e18 _ (by rw [setF_ne (by decide), setF_at])) (fun z => absurd hkc z)
              refine G_iload_n (pc := 61) dX10_next_61 rfl ?_
              refine G_if_ge_t (pc := 62) 81 dX10_next_62 rfl (by omega) (by omega) ?_
              refine G_iload_n (pc := 81) dX10_next_81 rfl ?_
              refine G_bipush (pc := 82) dX10_next_82 rfl ?_
              refine G_bipush (pc := 84) dX10_next_84 rfl ?_
              refine G_callS (pc := 86) (d2 := 1) (mc2 := 0) (ms2 := 0) (As := [_, _, _]) dX10_next_86 kX10_in lkX10_86 rfl rfl (Nat.le_of_ble_eq_true rfl) ⟨by decide, by decide⟩ (by decide) ?_
              refine c_X10_in (by omega) (fun w => absurd w hc1) (fun w => ?_)
              · show G _ _ _ _ _ _ _ _ _ _ _ _ _
                refine G_if_eq_t (pc := 89) 173 dX10_next_89 rfl (by decide) (by decide) ?_
                refine G_iload_n (pc := 173) dX10_next_173 rfl ?_
                refine G_bipush (pc := 174) dX10_next_174 rfl ?_
                refine G_bipush (pc := 176) dX10_next_176 rfl ?_
                refine G_callS (pc := 178) (d2 := 1) (mc2 := 0) (ms2 := 0) (As := [_, _, _]) dX10_next_178 kX10_in lkX10_86 rfl rfl (Nat.le_of_ble_eq_true rfl) ⟨by decide, by decide⟩ (by decide) ?_
                refine c_X10_in (by omega) (fun w => absurd w hc2) (fun w => ?_)
                · show G _ _ _ _ _ _ _ _ _ _ _ _ _
                  refine G_if_eq_t (pc := 181) 282 dX10_next_181 rfl (by decide) (by decide) ?_
                  refine G_iload_n (pc := 282) dX10_next_282 rfl ?_
                  refine G_bipush (pc := 283) dX10_next_283 rfl ?_
                  refine G_icmp_eq_f (pc := 285) 330 dX10_next_285 rfl (by omega) (by omega) ?_
                  refine G_iload_n (pc := 288) dX10_next_288 rfl ?_
                  refine G_bipush (pc := 289) dX10_next_289 rfl ?_
                  refine G_icmp_eq_f (pc := 291) 330 dX10_next_291 rfl (by omega) (by omega) ?_
                  refine G_iload_n (pc := 294) dX10_next_294 rfl ?_
                  refine G_bipush (pc := 295) dX10_next_295 rfl ?_
                  refine G_icmp_eq_f (pc := 297) 330 dX10_next_297 rfl (by omega) (by omega) ?_
                  refine G_iload_n (pc := 300) dX10_next_300 rfl ?_
                  refine G_bipush (pc := 301) dX10_next_301 rfl ?_
                  refine G_icmp_eq_f (pc := 303) 330 dX10_next_303 rfl (by omega) (by omega) ?_
                  refine G_iload_n (pc := 306) dX10_next_306 rfl ?_
                  refine G_bipush (pc := 307) dX10_next_307 rfl ?_
                  refine G_icmp_eq_f (pc := 309) 330 dX10_next_309 rfl (by omega) (by omega) ?_
                  refine G_iload_n (pc := 312) dX10_next_312 rfl ?_
                  refine G_bipush (pc := 313) dX10_next_313 rfl ?_
                  refine G_icmp_eq_f (pc := 315) 330 dX10_next_315 rfl (by omega) (by omega) ?_
                  refine G_iload_n (pc := 318) dX10_next_318 rfl ?_
                  refine G_bipush (pc := 319) dX10_next_319 rfl ?_
                  refine G_icmp_eq_f (pc := 321) 330 dX10_next_321 rfl (by omega) (by omega) ?_
                  refine G_iload_n (pc := 324) dX10_next_324 rfl ?_
                  refine G_bipush (pc := 325) dX10_next_325 rfl ?_
                  refine G_icmp_ne_t (pc := 327) 350 dX10_next_327 rfl (by omega) (by omega) ?_
                  refine G_vret (pc := 350) dX10_next_350 rfl (by decide) ?_
                  exact hq2
    have e20c : (setF S1 96 18 e).1 96 20 = e := e20
    refine S_aload_n (pc := 39) dX10_next_39 rfl ?_
    refine S_aload_n (pc := 40) dX10_next_40 rfl ?_
    refine S_getI (pc := 41) dX10_next_41 fX10_174 (by assumption) rfl ?_
    rw [h20']
    refine S_putI (pc := 44) dX10_next_44 fX10_180 (by assumption) rfl ⟨rfl, rfl⟩ ?_
    refine S_aload_n (pc := 47) dX10_next_47 rfl ?_
    refine S_aload_n (pc := 48) dX10_next_48 rfl ?_
    refine S_getI (pc := 49) dX10_next_49 fX10_174 (by assumption) rfl ?_
    rw [e20]
    refine S_callV (pc := 52) (ci := 10) (d2 := 1) (mc2 := 0) (ms2 := 0) (As := [_]) dX10_next_52 kX10_byteAt lkX10_177 (by assumption) rfl rfl rfl (Nat.le_of_ble_eq_true rfl) ⟨by decide, by decide⟩ (by decide) ?_
    refine c_X10_byteAt X2 (by omega) ?_
    show G _ _ _ _ _ _ _ _ _ _ _ _ _
    refine G_istore_n (pc := 55) (ls' := [(1, _), (0, _)]) dX10_next_55 (by decide) rfl ?_
    refine S_aload_n (pc := 56) dX10_next_56 rfl ?_
    refine G_iconst (pc := 57) dX10_next_57 ?_
    refine S_putI (pc := 58) dX10_next_58 fX10_183 (by assumption) rfl ⟨rfl, rfl⟩ ?_
    exact K61
  refine GCall.of (by decide) (Nat.le_of_ble_eq_true rfl) (ls := [(0, _)]) rfl ?_
  exact l_X10_nextB K39 (N - h).toNat h S (by omega) hh GrN_rf hX h20 he
