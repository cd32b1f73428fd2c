/-! Grammar: ONE .. E -/
def GaC (g : GC) (sh : SH) (N : Int) (B : Int → Int) (x : Nat) (y : GM) (nt r c f : Nat) : Prop :=
  ∀ (k o : Nat) (l : List Int) (S : SS) (n : Nat) (Q : Option Value → GA → Nat → Prop), 12 * (161 - k) + r ≤ f → o ≤ 5 → (k : Int) ≤ N → GcX sh S N B x → GcC S x k o l → l.length ≤ k →
    (∀ (kf : Nat) (S' : SS), prs (tkk B) f nt k o = .inl kf → GaR x S S' → GcX sh S' N B x → GcF S' o (tka N B kf) → Q none (hp g sh S') n) →
    (∀ (k1 : Nat) (l1 : List Int) (S' : SS), prs (tkk B) f nt k o = .inr (k1, l1) → GaR x S S' → GcX sh S' N B x → GcC S' x k1 o (l ++ l1) → (k ≤ k1 ∧ (k1 : Int) ≤ N ∧ l1.length + k ≤ k1) → Q none (hp g sh S') n) →
    GCall g y (7 * (5 - o) + c) 0 0 [gr g 43] (hp g sh S) n Q
def GaL (g : GC) (sh : SH) (N : Int) (B : Int → Int) (x : Nat) (y : GM) (nt c f : Nat) : Prop :=
  ∀ (k o : Nat) (l : List Int) (S : SS) (n : Nat) (Q : Option Value → GA → Nat → Prop) (i : Int), 12 * (161 - k) + 1 ≤ f → o ≤ 5 → (k : Int) ≤ N → GcX sh S N B x → GcC S x k o l → l.length ≤ k → (0 ≤ i ∧ i ≤ k) →
    (∀ (kf : Nat) (S' : SS), prs (tkk B) f nt k o = .inl kf → GaR x S S' → GcX sh S' N B x → GcF S' o (tka N B kf) → Q none (hp g sh S') n) →
    (∀ (k1 : Nat) (l1 : List Int) (S' : SS), prs (tkk B) f nt k o = .inr (k1, l1) → GaR x S S' → GcX sh S' N B x → GcC S' x k1 o (l ++ l1) → (k ≤ k1 ∧ (k1 : Int) ≤ N ∧ l1.length + k ≤ k1) → Q none (hp g sh S') n) →
    G g y (7 * (5 - o) + c) 0 0 6 [(1, .int (iI i)), (0, gr g 43)] [] (hp g sh S) n 0 0 Q
theorem ap1 {l l1 l2 : List Int} {s : Int} : l ++ l1 ++ [s] ++ l2 = l ++ (l1 ++ (s :: l2)) := by
  rw [List.append_assoc, List.append_assoc]; rfl
theorem ap2 {l l1 : List Int} {s : Int} : l ++ l1 ++ [s] = l ++ (l1 ++ [s]) := List.append_assoc ..
theorem ap3 {l l1 l2 : List Int} {s : Int} : l ++ l1 ++ l2 ++ [s] = l ++ (l1 ++ (l2 ++ [s])) := by
  rw [List.append_assoc, List.append_assoc]
theorem len1 {l l1 : List Int} : (l ++ l1).length = l.length + l1.length := List.length_append
theorem len2 {l l1 : List Int} {s : Int} : (l ++ l1 ++ [s]).length = l.length + l1.length + 1 := by
  rw [List.length_append, List.length_append]; rfl
theorem len3 {l : List Int} {s : Int} : (s :: l).length = l.length + 1 := rfl
set_option maxRecDepth 100000 in
set_option maxHeartbeats 4000000 in
theorem ex_term {g : GC} {sh : SH} {S : SS} {n : Nat} {N fa i : Int} {B : Int → Int} {x o : Nat} {Q : Option Value → GA → Nat → Prop} (ho : o ≤ 5) (hX : GcX sh S N B x) (hC : GcF S o fa) (hi : 0 ≤ i ∧ i ≤ 160) (hq : Q none (hp g sh S) n) : G g mX1_term (7 * (5 - o) + 5) 0 0 6 [(1, .int (iI i)), (0, gr g 43)] [] (hp g sh S) n 0 0 Q := by
  have h43 := hX.2.2.2.1
  refine G_iload_n (pc := 6) dX1_term_6 rfl ?_
  refine G_sipush (pc := 7) dX1_term_7 rfl ?_
  refine G_icmp_ge (pc := 10) 41 dX1_term_10 rfl (by omega) (fun c10 => ?_) (fun c10 => ?_)
  · skip
    refine G_vret (pc := 41) dX1_term_41 rfl (by decide) ?_
    exact hq
  · skip
    refine S_aload_n (pc := 13) dX1_term_13 rfl ?_
    refine G_bipush (pc := 14) dX1_term_14 rfl ?_
    refine S_callV (pc := 16) (ci := 1) (d2 := 3) (mc2 := 0) (ms2 := 0) (As := [_]) dX1_term_16 kX1_took lkX1_67 (by assumption) rfl rfl rfl (Nat.le_of_ble_eq_true rfl) ⟨by(omega),by(decide)⟩ (by decide) ?_
    refine c_X1_tookF hX hC ?_
    · show G _ _ _ _ _ _ _ _ _ _ _ _ _
      refine G_if_eq_t (pc := 19) 41 dX1_term_19 rfl (by decide) (by decide) ?_
      refine G_vret (pc := 41) dX1_term_41 rfl (by decide) ?_
      exact hq
set_option maxRecDepth 100000 in
set_option maxHeartbeats 4000000 in
theorem sg_term {g : GC} {sh : SH} {N : Int} {B : Int → Int} {x f : Nat} (H0 : GaC g sh N B x mX1_one 0 1 4 f) (HL : GaL g sh N B x mX1_term 6 5 f) : GaC g sh N B x mX1_term 1 2 5 (f + 1) := by
  intro k o l S n Q hn ho hk hX hC hl hF hS
  have h43 := hX.2.2.2.1
  have hpr : ∀ z : PR, bnd (prs (tkk B) f 0 k o) (fun k1 l1 => bnd (prs (tkk B) f 6 k1 o) (fun k2 l2 => .inr (k2, l1 ++ l2))) = z → prs (tkk B) (f + 1) 1 k o = z := fun z h => h
  have Kf : ∀ (kf : Nat) (S1 : SS), prs (tkk B) f 0 k o = .inl kf → GaR x S S1 → GcX sh S1 N B x → GcF S1 o (tka N B kf) → G g mX1_term (7 * (5 - o) + 5) 0 0 6 [(1, .int (iI 0)), (0, gr g 43)] [] (hp g sh S1) n 0 0 Q := fun kf S1 e r1 r2 r3 => ex_term ho r2 r3 (by omega) (hF kf S1 (hpr _ (by rw [e]; rfl)) r1 r2 r3)
  have Ks : ∀ (k1 : Nat) (l1 : List Int) (S1 : SS), prs (tkk B) f 0 k o = .inr (k1, l1) → GaR x S S1 → GcX sh S1 N B x → GcC S1 x k1 o (l ++ l1) → (k ≤ k1 ∧ (k1 : Int) ≤ N ∧ l1.length + k ≤ k1) → G g mX1_term (7 * (5 - o) + 5) 0 0 6 [(1, .int (iI 0)), (0, gr g 43)] [] (hp g sh S1) n 0 0 Q := fun k1 l1 S1 e r1 r2 r3 rk => HL k1 o (l ++ l1) S1 n Q 0 (by omega) ho rk.2.1 r2 r3 (by rw [len1]; omega) (by omega) (fun kf S2 e2 q1 q2 q3 => hF kf S2 (hpr _ (by rw [e]; show bnd (prs (tkk B) f 6 k1 o) _ = _; rw [e2]; rfl)) (GaR_tr r1 q1) q2 q3) (fun k2 l2 S2 e2 q1 q2 q3 qk => hS k2 (l1 ++ l2) S2 (hpr _ (by rw [e]; show bnd (prs (tkk B) f 6 k1 o) _ = _; rw [e2]; rfl)) (GaR_tr r1 q1) q2 (GcC_cast q3 (List.append_assoc ..)) (by rw [len1]; omega))
  refine GCall.of (by decide) (Nat.le_of_ble_eq_true rfl) (ls := [(0, _)]) rfl ?_
  refine S_aload_n (pc := 0) dX1_term_0 rfl ?_
  refine S_callV (pc := 1) (ci := 1) (d2 := (7*(5-o)+4)) (mc2 := 0) (ms2 := 0) (As := []) dX1_term_1 kX1_one lkX1_85 (by assumption) rfl rfl rfl (Nat.le_of_ble_eq_true rfl) ⟨by(omega),by(decide)⟩ (by decide) ?_
  refine H0 k o l S n _ (by omega) ho hk hX hC hl (fun kf S1 e r1 r2 r3 => ?_) (fun k1 l1 S1 e r1 r2 r3 rk => ?_)
  · show G _ _ _ _ _ _ _ _ _ _ _ _ _
    refine G_iconst (pc := 4) dX1_term_4 ?_
    refine G_istore_n (pc := 5) (ls' := [(1, _), (0, _)]) dX1_term_5 (by decide) rfl ?_
    first | exact Kf kf S1 e r1 r2 r3 | exact Ks k1 l1 S1 e r1 r2 r3 rk
  · show G _ _ _ _ _ _ _ _ _ _ _ _ _
    refine G_iconst (pc := 4) dX1_term_4 ?_
    refine G_istore_n (pc := 5) (ls' := [(1, _), (0, _)]) dX1_term_5 (by decide) rfl ?_
    first | exact Kf kf S1 e r1 r2 r3 | exact Ks k1 l1 S1 e r1 r2 r3 rk
set_option maxRecDepth 100000 in
set_option maxHeartbeats 4000000 in
theorem lg_term {g : GC} {sh : SH} {N : Int} {B : Int → Int} {x f : Nat} (H0 : GaC g sh N B x mX1_one 0 1 4 f) (HL : GaL g sh N B x mX1_term 6 5 f) : GaL g sh N B x mX1_term 6 5 (f + 1) := by
  intro k o l S n Q i hn ho hk hX hC hl hi hF hS
  have h43 := hX.2.2.2.1
  have hB := hX.2.2.1
  have hN := hB.1
  by_cases c : tkk B k = 42
  · have hkN := tk_in hB (k := k) (by omega)
    have hpr : ∀ z : PR, bnd (prs (tkk B) f 0 (k + 1) o) (fun k1 l1 => bnd (prs (tkk B) f 6 k1 o) (fun k2 l2 => .inr (k2, l1 ++ (-18 :: l2)))) = z → prs (tkk B) (f + 1) 6 k o = z := fun z h => (if_pos c).trans h
    have Kf : ∀ (kf : Nat) (S2 : SS), prs (tkk B) f 0 (k + 1) o = .inl kf → GaR x S S2 → GcX sh S2 N B x → GcF S2 o (tka N B kf) → G g mX1_term (7 * (5 - o) + 5) 0 0 26 [(1, .int (iI i)), (0, gr g 43)] [] (hp g sh S2) n 0 0 Q := by
      intro kf S2 e q1 q2 q3
      have q2c := q2
      obtain ⟨-, -, -, -, u0, u1, -, ux, -⟩ := q2c
      refine S_aload_n (pc := 26) dX1_term_26 rfl ?_
      refine S_getR (pc := 27) dX1_term_27 fX1_12 (by assumption) rfl (by assumption) ?_
      refine G_bipush (pc := 30) dX1_term_30 rfl ?_
      refine S_callV (pc := 32) (ci := 7) (d2 := 1) (mc2 := 0) (ms2 := 0) (As := [_]) dX1_term_32 kX7_add lkX1_70 (by assumption) rfl rfl rfl (Nat.le_of_ble_eq_true rfl) ⟨by(omega),by(decide)⟩ (by decide) ?_
      refine c_X7_addF q2 q3 (by unfold IsI; omega) (fun S3 p1 p2 p3 => ?_)
      · show G _ _ _ _ _ _ _ _ _ _ _ _ _
        refine G_iinc (pc := 35) (ls' := [(1, _), (0, _)]) dX1_term_35 rfl (by decide) rfl ?_
        refine G_goto (pc := 38) 6 dX1_term_38 rfl ?_
        exact ex_term ho p2 p3 (by omega) (hF kf S3 (hpr _ (by rw [e]; rfl)) (GaR_tr q1 p1) p2 p3)
    have Ks : ∀ (k1 : Nat) (l1 : List Int) (S2 : SS), prs (tkk B) f 0 (k + 1) o = .inr (k1, l1) → GaR x S S2 → GcX sh S2 N B x → GcC S2 x k1 o (l ++ l1) → (k + 1 ≤ k1 ∧ (k1 : Int) ≤ N ∧ l1.length + (k + 1) ≤ k1) → G g mX1_term (7 * (5 - o) + 5) 0 0 26 [(1, .int (iI i)), (0, gr g 43)] [] (hp g sh S2) n 0 0 Q := by
      intro k1 l1 S2 e q1 q2 q3 qk
      have q2c := q2
      obtain ⟨-, -, -, -, u0, u1, -, ux, -⟩ := q2c
      refine S_aload_n (pc := 26) dX1_term_26 rfl ?_
      refine S_getR (pc := 27) dX1_term_27 fX1_12 (by assumption) rfl (by assumption) ?_
      refine G_bipush (pc := 30) dX1_term_30 rfl ?_
      refine S_callV (pc := 32) (ci := 7) (d2 := 1) (mc2 := 0) (ms2 := 0) (As := [_]) dX1_term_32 kX7_add lkX1_70 (by assumption) rfl rfl rfl (Nat.le_of_ble_eq_true rfl) ⟨by(omega),by(decide)⟩ (by decide) ?_
      refine c_X7_addC q2 q3 (by rw [len1]; omega) (by unfold IsI; omega) (fun S3 p1 p2 p3 => ?_)
      · show G _ _ _ _ _ _ _ _ _ _ _ _ _
        refine G_iinc (pc := 35) (ls' := [(1, _), (0, _)]) dX1_term_35 rfl (by decide) rfl ?_
        refine G_goto (pc := 38) 6 dX1_term_38 rfl ?_
        refine HL k1 o (l ++ l1 ++ [-18]) S3 n Q (i + 1) (by omega) ho qk.2.1 p2 p3 (by rw [len2]; omega) (by omega) (fun kf S4 e2 v1 v2 v3 => hF kf S4 (hpr _ (by rw [e]; show bnd (prs (tkk B) f 6 k1 o) _ = _; rw [e2]; rfl)) (GaR_tr (GaR_tr q1 p1) v1) v2 v3) (fun k2 l2 S4 e2 v1 v2 v3 vk => hS k2 (l1 ++ (-18 :: l2)) S4 (hpr _ (by rw [e]; show bnd (prs (tkk B) f 6 k1 o) _ = _; rw [e2]; rfl)) (GaR_tr (GaR_tr q1 p1) v1) v2 (GcC_cast v3 ap1) (by rw [len1, len3]; omega))
    refine G_iload_n (pc := 6) dX1_term_6 rfl ?_
    refine G_sipush (pc := 7) dX1_term_7 rfl ?_
    refine G_icmp_ge_f (pc := 10) 41 dX1_term_10 rfl (by omega) (by omega) ?_
    refine S_aload_n (pc := 13) dX1_term_13 rfl ?_
    refine G_bipush (pc := 14) dX1_term_14 rfl ?_
    refine S_callV (pc := 16) (ci := 1) (d2 := 3) (mc2 := 0) (ms2 := 0) (As := [_]) dX1_term_16 kX1_took lkX1_67 (by assumption) rfl rfl rfl (Nat.le_of_ble_eq_true rfl) ⟨by(omega),by(decide)⟩ (by decide) ?_
    refine c_X1_tookC hX hC (by omega) (by decide) (fun _ S1 r1 r2 r3 => ?_) (fun z => absurd c z)
    · show G _ _ _ _ _ _ _ _ _ _ _ _ _
      refine G_if_eq_f (pc := 19) 41 dX1_term_19 rfl (by decide) (by decide) ?_
      refine S_aload_n (pc := 22) dX1_term_22 rfl ?_
      refine S_callV (pc := 23) (ci := 1) (d2 := (7*(5-o)+4)) (mc2 := 0) (ms2 := 0) (As := []) dX1_term_23 kX1_one lkX1_85 (by assumption) rfl rfl rfl (Nat.le_of_ble_eq_true rfl) ⟨by(omega),by(decide)⟩ (by decide) ?_
      refine H0 (k + 1) o l S1 n _ (by omega) ho (by omega) r2 r3 (by omega) (fun kf S2 e q1 q2 q3 => ?_) (fun k1 l1 S2 e q1 q2 q3 qk => ?_)
      · show G _ _ _ _ _ _ _ _ _ _ _ _ _
        first | exact Kf kf S2 e (GaR_tr r1 q1) q2 q3 | exact Ks k1 l1 S2 e (GaR_tr r1 q1) q2 q3 qk
      · show G _ _ _ _ _ _ _ _ _ _ _ _ _
        first | exact Kf kf S2 e (GaR_tr r1 q1) q2 q3 | exact Ks k1 l1 S2 e (GaR_tr r1 q1) q2 q3 qk
  · have hp1 : prs (tkk B) (f + 1) 6 k o = .inr (k, []) := if_neg c
    have hend := hS k [] S hp1 GaR_rf hX (GcC_cast hC (List.append_nil l).symm) ⟨Nat.le_refl _, hk, by rw [List.length_nil]; omega⟩
    refine G_iload_n (pc := 6) dX1_term_6 rfl ?_
    refine G_sipush (pc := 7) dX1_term_7 rfl ?_
    refine G_icmp_ge (pc := 10) 41 dX1_term_10 rfl (by omega) (fun c10 => ?_) (fun c10 => ?_)
    · skip
      refine G_vret (pc := 41) dX1_term_41 rfl (by decide) ?_
      exact hend
    · skip
      refine S_aload_n (pc := 13) dX1_term_13 rfl ?_
      refine G_bipush (pc := 14) dX1_term_14 rfl ?_
      refine S_callV (pc := 16) (ci := 1) (d2 := 3) (mc2 := 0) (ms2 := 0) (As := [_]) dX1_term_16 kX1_took lkX1_67 (by assumption) rfl rfl rfl (Nat.le_of_ble_eq_true rfl) ⟨by(omega),by(decide)⟩ (by decide) ?_
      refine c_X1_tookC hX hC (by omega) (by decide) (fun z => absurd z c) (fun _ => ?_)
      · show G _ _ _ _ _ _ _ _ _ _ _ _ _
        refine G_if_eq_t (pc := 19) 41 dX1_term_19 rfl (by decide) (by decide) ?_
        refine G_vret (pc := 41) dX1_term_41 rfl (by decide) ?_
        exact hend
set_option maxRecDepth 100000 in
set_option maxHeartbeats 4000000 in
theorem ex_both {g : GC} {sh : SH} {S : SS} {n : Nat} {N fa i : Int} {B : Int → Int} {x o : Nat} {Q : Option Value → GA → Nat → Prop} (ho : o ≤ 5) (hX : GcX sh S N B x) (hC : GcF S o fa) (hi : 0 ≤ i ∧ i ≤ 160) (hq : Q none (hp g sh S) n) : G g mX1_both (7 * (5 - o) + 8) 0 0 6 [(1, .int (iI i)), (0, gr g 43)] [] (hp g sh S) n 0 0 Q := by
  have h43 := hX.2.2.2.1
  refine G_iload_n (pc := 6) dX1_both_6 rfl ?_
  refine G_sipush (pc := 7) dX1_both_7 rfl ?_
  refine G_icmp_ge (pc := 10) 42 dX1_both_10 rfl (by omega) (fun c10 => ?_) (fun c10 => ?_)
  · skip
    refine G_vret (pc := 42) dX1_both_42 rfl (by decide) ?_
    exact hq
  · skip
    refine S_aload_n (pc := 13) dX1_both_13 rfl ?_
    refine G_sipush (pc := 14) dX1_both_14 rfl ?_
    refine S_callV (pc := 17) (ci := 1) (d2 := 3) (mc2 := 0) (ms2 := 0) (As := [_]) dX1_both_17 kX1_took lkX1_67 (by assumption) rfl rfl rfl (Nat.le_of_ble_eq_true rfl) ⟨by(omega),by(decide)⟩ (by decide) ?_
    refine c_X1_tookF hX hC ?_
    · show G _ _ _ _ _ _ _ _ _ _ _ _ _
      refine G_if_eq_t (pc := 20) 42 dX1_both_20 rfl (by decide) (by decide) ?_
      refine G_vret (pc := 42) dX1_both_42 rfl (by decide) ?_
      exact hq
set_option maxRecDepth 100000 in
set_option maxHeartbeats 4000000 in
theorem sg_both {g : GC} {sh : SH} {N : Int} {B : Int → Int} {x f : Nat} (H0 : GaC g sh N B x mX1_negated 3 4 7 f) (HL : GaL g sh N B x mX1_both 8 8 f) : GaC g sh N B x mX1_both 4 5 8 (f + 1) := by
  intro k o l S n Q hn ho hk hX hC hl hF hS
  have h43 := hX.2.2.2.1
  have hpr : ∀ z : PR, bnd (prs (tkk B) f 3 k o) (fun k1 l1 => bnd (prs (tkk B) f 8 k1 o) (fun k2 l2 => .inr (k2, l1 ++ l2))) = z → prs (tkk B) (f + 1) 4 k o = z := fun z h => h
  have Kf : ∀ (kf : Nat) (S1 : SS), prs (tkk B) f 3 k o = .inl kf → GaR x S S1 → GcX sh S1 N B x → GcF S1 o (tka N B kf) → G g mX1_both (7 * (5 - o) + 8) 0 0 6 [(1, .int (iI 0)), (0, gr g 43)] [] (hp g sh S1) n 0 0 Q := fun kf S1 e r1 r2 r3 => ex_both ho r2 r3 (by omega) (hF kf S1 (hpr _ (by rw [e]; rfl)) r1 r2 r3)
  have Ks : ∀ (k1 : Nat) (l1 : List Int) (S1 : SS), prs (tkk B) f 3 k o = .inr (k1, l1) → GaR x S S1 → GcX sh S1 N B x → GcC S1 x k1 o (l ++ l1) → (k ≤ k1 ∧ (k1 : Int) ≤ N ∧ l1.length + k ≤ k1) → G g mX1_both (7 * (5 - o) + 8) 0 0 6 [(1, .int (iI 0)), (0, gr g 43)] [] (hp g sh S1) n 0 0 Q := fun k1 l1 S1 e r1 r2 r3 rk => HL k1 o (l ++ l1) S1 n Q 0 (by omega) ho rk.2.1 r2 r3 (by rw [len1]; omega) (by omega) (fun kf S2 e2 q1 q2 q3 => hF kf S2 (hpr _ (by rw [e]; show bnd (prs (tkk B) f 8 k1 o) _ = _; rw [e2]; rfl)) (GaR_tr r1 q1) q2 q3) (fun k2 l2 S2 e2 q1 q2 q3 qk => hS k2 (l1 ++ l2) S2 (hpr _ (by rw [e]; show bnd (prs (tkk B) f 8 k1 o) _ = _; rw [e2]; rfl)) (GaR_tr r1 q1) q2 (GcC_cast q3 (List.append_assoc ..)) (by rw [len1]; omega))
  refine GCall.of (by decide) (Nat.le_of_ble_eq_true rfl) (ls := [(0, _)]) rfl ?_
  refine S_aload_n (pc := 0) dX1_both_0 rfl ?_
  refine S_callV (pc := 1) (ci := 1) (d2 := (7*(5-o)+7)) (mc2 := 0) (ms2 := 0) (As := []) dX1_both_1 kX1_negated lkX1_73 (by assumption) rfl rfl rfl (Nat.le_of_ble_eq_true rfl) ⟨by(omega),by(decide)⟩ (by decide) ?_
  refine H0 k o l S n _ (by omega) ho hk hX hC hl (fun kf S1 e r1 r2 r3 => ?_) (fun k1 l1 S1 e r1 r2 r3 rk => ?_)
  · show G _ _ _ _ _ _ _ _ _ _ _ _ _
    refine G_iconst (pc := 4) dX1_both_4 ?_
    refine G_istore_n (pc := 5) (ls' := [(1, _), (0, _)]) dX1_both_5 (by decide) rfl ?_
    first | exact Kf kf S1 e r1 r2 r3 | exact Ks k1 l1 S1 e r1 r2 r3 rk
  · show G _ _ _ _ _ _ _ _ _ _ _ _ _
    refine G_iconst (pc := 4) dX1_both_4 ?_
    refine G_istore_n (pc := 5) (ls' := [(1, _), (0, _)]) dX1_both_5 (by decide) rfl ?_
    first | exact Kf kf S1 e r1 r2 r3 | exact Ks k1 l1 S1 e r1 r2 r3 rk
set_option maxRecDepth 100000 in
set_option maxHeartbeats 4000000 in
theorem lg_both {g : GC} {sh : SH} {N : Int} {B : Int → Int} {x f : Nat} (H0 : GaC g sh N B x mX1_negated 3 4 7 f) (HL : GaL g sh N B x mX1_both 8 8 f) : GaL g sh N B x mX1_both 8 8 (f + 1) := by
  intro k o l S n Q i hn ho hk hX hC hl hi hF hS
  have h43 := hX.2.2.2.1
  have hB := hX.2.2.1
  have hN := hB.1
  by_cases c : tkk B k = 264
  · have hkN := tk_in hB (k := k) (by omega)
    have hpr : ∀ z : PR, bnd (prs (tkk B) f 3 (k + 1) o) (fun k1 l1 => bnd (prs (tkk B) f 8 k1 o) (fun k2 l2 => .inr (k2, l1 ++ (-12 :: l2)))) = z → prs (tkk B) (f + 1) 8 k o = z := fun z h => (if_pos c).trans h
    have Kf : ∀ (kf : Nat) (S2 : SS), prs (tkk B) f 3 (k + 1) o = .inl kf → GaR x S S2 → GcX sh S2 N B x → GcF S2 o (tka N B kf) → G g mX1_both (7 * (5 - o) + 8) 0 0 27 [(1, .int (iI i)), (0, gr g 43)] [] (hp g sh S2) n 0 0 Q := by
      intro kf S2 e q1 q2 q3
      have q2c := q2
      obtain ⟨-, -, -, -, u0, u1, -, ux, -⟩ := q2c
      refine S_aload_n (pc := 27) dX1_both_27 rfl ?_
      refine S_getR (pc := 28) dX1_both_28 fX1_12 (by assumption) rfl (by assumption) ?_
      refine G_bipush (pc := 31) dX1_both_31 rfl ?_
      refine S_callV (pc := 33) (ci := 7) (d2 := 1) (mc2 := 0) (ms2 := 0) (As := [_]) dX1_both_33 kX7_add lkX1_70 (by assumption) rfl rfl rfl (Nat.le_of_ble_eq_true rfl) ⟨by(omega),by(decide)⟩ (by decide) ?_
      refine c_X7_addF q2 q3 (by unfold IsI; omega) (fun S3 p1 p2 p3 => ?_)
      · show G _ _ _ _ _ _ _ _ _ _ _ _ _
        refine G_iinc (pc := 36) (ls' := [(1, _), (0, _)]) dX1_both_36 rfl (by decide) rfl ?_
        refine G_goto (pc := 39) 6 dX1_both_39 rfl ?_
        exact ex_both ho p2 p3 (by omega) (hF kf S3 (hpr _ (by rw [e]; rfl)) (GaR_tr q1 p1) p2 p3)
    have Ks : ∀ (k1 : Nat) (l1 : List Int) (S2 : SS), prs (tkk B) f 3 (k + 1) o = .inr (k1, l1) → GaR x S S2 → GcX sh S2 N B x → GcC S2 x k1 o (l ++ l1) → (k + 1 ≤ k1 ∧ (k1 : Int) ≤ N ∧ l1.length + (k + 1) ≤ k1) → G g mX1_both (7 * (5 - o) + 8) 0 0 27 [(1, .int (iI i)), (0, gr g 43)] [] (hp g sh S2) n 0 0 Q := by
      intro k1 l1 S2 e q1 q2 q3 qk
      have q2c := q2
      obtain ⟨-, -, -, -, u0, u1, -, ux, -⟩ := q2c
      refine S_aload_n (pc := 27) dX1_both_27 rfl ?_
      refine S_getR (pc := 28) dX1_both_28 fX1_12 (by assumption) rfl (by assumption) ?_
      refine G_bipush (pc := 31) dX1_both_31 rfl ?_
      refine S_callV (pc := 33) (ci := 7) (d2 := 1) (mc2 := 0) (ms2 := 0) (As := [_]) dX1_both_33 kX7_add lkX1_70 (by assumption) rfl rfl rfl (Nat.le_of_ble_eq_true rfl) ⟨by(omega),by(decide)⟩ (by decide) ?_
      refine c_X7_addC q2 q3 (by rw [len1]; omega) (by unfold IsI; omega) (fun S3 p1 p2 p3 => ?_)
      · show G _ _ _ _ _ _ _ _ _ _ _ _ _
        refine G_iinc (pc := 36) (ls' := [(1, _), (0, _)]) dX1_both_36 rfl (by decide) rfl ?_
        refine G_goto (pc := 39) 6 dX1_both_39 rfl ?_
        refine HL k1 o (l ++ l1 ++ [-12]) S3 n Q (i + 1) (by omega) ho qk.2.1 p2 p3 (by rw [len2]; omega) (by omega) (fun kf S4 e2 v1 v2 v3 => hF kf S4 (hpr _ (by rw [e]; show bnd (prs (tkk B) f 8 k1 o) _ = _; rw [e2]; rfl)) (GaR_tr (GaR_tr q1 p1) v1) v2 v3) (fun k2 l2 S4 e2 v1 v2 v3 vk => hS k2 (l1 ++ (-12 :: l2)) S4 (hpr _ (by rw [e]; show bnd (prs (tkk B) f 8 k1 o) _ = _; rw [e2]; rfl)) (GaR_tr (GaR_tr q1 p1) v1) v2 (GcC_cast v3 ap1) (by rw [len1, len3]; omega))
    refine G_iload_n (pc := 6) dX1_both_6 rfl ?_
    refine G_sipush (pc := 7) dX1_both_7 rfl ?_
    refine G_icmp_ge_f (pc := 10) 42 dX1_both_10 rfl (by omega) (by omega) ?_
    refine S_aload_n (pc := 13) dX1_both_13 rfl ?_
    refine G_sipush (pc := 14) dX1_both_14 rfl ?_
    refine S_callV (pc := 17) (ci := 1) (d2 := 3) (mc2 := 0) (ms2 := 0) (As := [_]) dX1_both_17 kX1_took lkX1_67 (by assumption) rfl rfl rfl (Nat.le_of_ble_eq_true rfl) ⟨by(omega),by(decide)⟩ (by decide) ?_
    refine c_X1_tookC hX hC (by omega) (by decide) (fun _ S1 r1 r2 r3 => ?_) (fun z => absurd c z)
    · show G _ _ _ _ _ _ _ _ _ _ _ _ _
      refine G_if_eq_f (pc := 20) 42 dX1_both_20 rfl (by decide) (by decide) ?_
      refine S_aload_n (pc := 23) dX1_both_23 rfl ?_
      refine S_callV (pc := 24) (ci := 1) (d2 := (7*(5-o)+7)) (mc2 := 0) (ms2 := 0) (As := []) dX1_both_24 kX1_negated lkX1_73 (by assumption) rfl rfl rfl (Nat.le_of_ble_eq_true rfl) ⟨by(omega),by(decide)⟩ (by decide) ?_
      refine H0 (k + 1) o l S1 n _ (by omega) ho (by omega) r2 r3 (by omega) (fun kf S2 e q1 q2 q3 => ?_) (fun k1 l1 S2 e q1 q2 q3 qk => ?_)
      · show G _ _ _ _ _ _ _ _ _ _ _ _ _
        first | exact Kf kf S2 e (GaR_tr r1 q1) q2 q3 | exact Ks k1 l1 S2 e (GaR_tr r1 q1) q2 q3 qk
      · show G _ _ _ _ _ _ _ _ _ _ _ _ _
        first | exact Kf kf S2 e (GaR_tr r1 q1) q2 q3 | exact Ks k1 l1 S2 e (GaR_tr r1 q1) q2 q3 qk
  · have hp1 : prs (tkk B) (f + 1) 8 k o = .inr (k, []) := if_neg c
    have hend := hS k [] S hp1 GaR_rf hX (GcC_cast hC (List.append_nil l).symm) ⟨Nat.le_refl _, hk, by rw [List.length_nil]; omega⟩
    refine G_iload_n (pc := 6) dX1_both_6 rfl ?_
    refine G_sipush (pc := 7) dX1_both_7 rfl ?_
    refine G_icmp_ge (pc := 10) 42 dX1_both_10 rfl (by omega) (fun c10 => ?_) (fun c10 => ?_)
    · skip
      refine G_vret (pc := 42) dX1_both_42 rfl (by decide) ?_
      exact hend
    · skip
      refine S_aload_n (pc := 13) dX1_both_13 rfl ?_
      refine G_sipush (pc := 14) dX1_both_14 rfl ?_
      refine S_callV (pc := 17) (ci := 1) (d2 := 3) (mc2 := 0) (ms2 := 0) (As := [_]) dX1_both_17 kX1_took lkX1_67 (by assumption) rfl rfl rfl (Nat.le_of_ble_eq_true rfl) ⟨by(omega),by(decide)⟩ (by decide) ?_
      refine c_X1_tookC hX hC (by omega) (by decide) (fun z => absurd z c) (fun _ => ?_)
      · show G _ _ _ _ _ _ _ _ _ _ _ _ _
        refine G_if_eq_t (pc := 20) 42 dX1_both_20 rfl (by decide) (by decide) ?_
        refine G_vret (pc := 42) dX1_both_42 rfl (by decide) ?_
        exact hend
set_option maxRecDepth 100000 in
set_option maxHeartbeats 4000000 in
theorem ex_either {g : GC} {sh : SH} {S : SS} {n : Nat} {N fa i : Int} {B : Int → Int} {x o : Nat} {Q : Option Value → GA → Nat → Prop} (ho : o ≤ 5) (hX : GcX sh S N B x) (hC : GcF S o fa) (hi : 0 ≤ i ∧ i ≤ 160) (hq : Q none (hp g sh S) n) : G g mX1_either (7 * (5 - o) + 9) 0 0 6 [(1, .int (iI i)), (0, gr g 43)] [] (hp g sh S) n 0 0 Q := by
  have h43 := hX.2.2.2.1
  refine G_iload_n (pc := 6) dX1_either_6 rfl ?_
  refine G_sipush (pc := 7) dX1_either_7 rfl ?_
  refine G_icmp_ge (pc := 10) 42 dX1_either_10 rfl (by omega) (fun c10 => ?_) (fun c10 => ?_)
  · skip
    refine G_vret (pc := 42) dX1_either_42 rfl (by decide) ?_
    exact hq
  · skip
    refine S_aload_n (pc := 13) dX1_either_13 rfl ?_
    refine G_sipush (pc := 14) dX1_either_14 rfl ?_
    refine S_callV (pc := 17) (ci := 1) (d2 := 3) (mc2 := 0) (ms2 := 0) (As := [_]) dX1_either_17 kX1_took lkX1_67 (by assumption) rfl rfl rfl (Nat.le_of_ble_eq_true rfl) ⟨by(omega),by(decide)⟩ (by decide) ?_
    refine c_X1_tookF hX hC ?_
    · show G _ _ _ _ _ _ _ _ _ _ _ _ _
      refine G_if_eq_t (pc := 20) 42 dX1_either_20 rfl (by decide) (by decide) ?_
      refine G_vret (pc := 42) dX1_either_42 rfl (by decide) ?_
      exact hq
set_option maxRecDepth 100000 in
set_option maxHeartbeats 4000000 in
theorem sg_either {g : GC} {sh : SH} {N : Int} {B : Int → Int} {x f : Nat} (H0 : GaC g sh N B x mX1_both 4 5 8 f) (HL : GaL g sh N B x mX1_either 9 9 f) : GaC g sh N B x mX1_either 5 6 9 (f + 1) := by
  intro k o l S n Q hn ho hk hX hC hl hF hS
  have h43 := hX.2.2.2.1
  have hpr : ∀ z : PR, bnd (prs (tkk B) f 4 k o) (fun k1 l1 => bnd (prs (tkk B) f 9 k1 o) (fun k2 l2 => .inr (k2, l1 ++ l2))) = z → prs (tkk B) (f + 1) 5 k o = z := fun z h => h
  have Kf : ∀ (kf : Nat) (S1 : SS), prs (tkk B) f 4 k o = .inl kf → GaR x S S1 → GcX sh S1 N B x → GcF S1 o (tka N B kf) → G g mX1_either (7 * (5 - o) + 9) 0 0 6 [(1, .int (iI 0)), (0, gr g 43)] [] (hp g sh S1) n 0 0 Q := fun kf S1 e r1 r2 r3 => ex_either ho r2 r3 (by omega) (hF kf S1 (hpr _ (by rw [e]; rfl)) r1 r2 r3)
  have Ks : ∀ (k1 : Nat) (l1 : List Int) (S1 : SS), prs (tkk B) f 4 k o = .inr (k1, l1) → GaR x S S1 → GcX sh S1 N B x → GcC S1 x k1 o (l ++ l1) → (k ≤ k1 ∧ (k1 : Int) ≤ N ∧ l1.length + k ≤ k1) → G g mX1_either (7 * (5 - o) + 9) 0 0 6 [(1, .int (iI 0)), (0, gr g 43)] [] (hp g sh S1) n 0 0 Q := fun k1 l1 S1 e r1 r2 r3 rk => HL k1 o (l ++ l1) S1 n Q 0 (by omega) ho rk.2.1 r2 r3 (by rw [len1]; omega) (by omega) (fun kf S2 e2 q1 q2 q3 => hF kf S2 (hpr _ (by rw [e]; show bnd (prs (tkk B) f 9 k1 o) _ = _; rw [e2]; rfl)) (GaR_tr r1 q1) q2 q3) (fun k2 l2 S2 e2 q1 q2 q3 qk => hS k2 (l1 ++ l2) S2 (hpr _ (by rw [e]; show bnd (prs (tkk B) f 9 k1 o) _ = _; rw [e2]; rfl)) (GaR_tr r1 q1) q2 (GcC_cast q3 (List.append_assoc ..)) (by rw [len1]; omega))
  refine GCall.of (by decide) (Nat.le_of_ble_eq_true rfl) (ls := [(0, _)]) rfl ?_
  refine S_aload_n (pc := 0) dX1_either_0 rfl ?_
  refine S_callV (pc := 1) (ci := 1) (d2 := (7*(5-o)+8)) (mc2 := 0) (ms2 := 0) (As := []) dX1_either_1 kX1_both lkX1_64 (by assumption) rfl rfl rfl (Nat.le_of_ble_eq_true rfl) ⟨by(omega),by(decide)⟩ (by decide) ?_
  refine H0 k o l S n _ (by omega) ho hk hX hC hl (fun kf S1 e r1 r2 r3 => ?_) (fun k1 l1 S1 e r1 r2 r3 rk => ?_)
  · show G _ _ _ _ _ _ _ _ _ _ _ _ _
    refine G_iconst (pc := 4) dX1_either_4 ?_
    refine G_istore_n (pc := 5) (ls' := [(1, _), (0, _)]) dX1_either_5 (by decide) rfl ?_
    first | exact Kf kf S1 e r1 r2 r3 | exact Ks k1 l1 S1 e r1 r2 r3 rk
  · show G _ _ _ _ _ _ _ _ _ _ _ _ _
    refine G_iconst (pc := 4) dX1_either_4 ?_
    refine G_istore_n (pc := 5) (ls' := [(1, _), (0, _)]) dX1_either_5 (by decide) rfl ?_
    first | exact Kf kf S1 e r1 r2 r3 | exact Ks k1 l1 S1 e r1 r2 r3 rk
set_option maxRecDepth 100000 in
set_option maxHeartbeats 4000000 in
theorem lg_either {g : GC} {sh : SH} {N : Int} {B : Int → Int} {x f : Nat} (H0 : GaC g sh N B x mX1_both 4 5 8 f) (HL : GaL g sh N B x mX1_either 9 9 f) : GaL g sh N B x mX1_either 9 9 (f + 1) := by
  intro k o l S n Q i hn ho hk hX hC hl hi hF hS
  have h43 := hX.2.2.2.1
  have hB := hX.2.2.1
  have hN := hB.1
  by_cases c : tkk B k = 263
  · have hkN := tk_in hB (k := k) (by omega)
    have hpr : ∀ z : PR, bnd (prs (tkk B) f 4 (k + 1) o) (fun k1 l1 => bnd (prs (tkk B) f 9 k1 o) (fun k2 l2 => .inr (k2, l1 ++ (-11 :: l2)))) = z → prs (tkk B) (f + 1) 9 k o = z := fun z h => (if_pos c).trans h
    have Kf : ∀ (kf : Nat) (S2 : SS), prs (tkk B) f 4 (k + 1) o = .inl kf → GaR x S S2 → GcX sh S2 N B x → GcF S2 o (tka N B kf) → G g mX1_either (7 * (5 - o) + 9) 0 0 27 [(1, .int (iI i)), (0, gr g 43)] [] (hp g sh S2) n 0 0 Q := by
      intro kf S2 e q1 q2 q3
      have q2c := q2
      obtain ⟨-, -, -, -, u0, u1, -, ux, -⟩ := q2c
      refine S_aload_n (pc := 27) dX1_either_27 rfl ?_
      refine S_getR (pc := 28) dX1_either_28 fX1_12 (by assumption) rfl (by assumption) ?_
      refine G_bipush (pc := 31) dX1_either_31 rfl ?_
      refine S_callV (pc := 33) (ci := 7) (d2 := 1) (mc2 := 0) (ms2 := 0) (As := [_]) dX1_either_33 kX7_add lkX1_70 (by assumption) rfl rfl rfl (Nat.le_of_ble_eq_true rfl) ⟨by(omega),by(decide)⟩ (by decide) ?_
      refine c_X7_addF q2 q3 (by unfold IsI; omega) (fun S3 p1 p2 p3 => ?_)
      · show G _ _ _ _ _ _ _ _ _ _ _ _ _
        refine G_iinc (pc := 36) (ls' := [(1, _), (0, _)]) dX1_either_36 rfl (by decide) rfl ?_
        refine G_goto (pc := 39) 6 dX1_either_39 rfl ?_
        exact ex_either ho p2 p3 (by omega) (hF kf S3 (hpr _ (by rw [e]; rfl)) (GaR_tr q1 p1) p2 p3)
    have Ks : ∀ (k1 : Nat) (l1 : List Int) (S2 : SS), prs (tkk B) f 4 (k + 1) o = .inr (k1, l1) → GaR x S S2 → GcX sh S2 N B x → GcC S2 x k1 o (l ++ l1) → (k + 1 ≤ k1 ∧ (k1 : Int) ≤ N ∧ l1.length + (k + 1) ≤ k1) → G g mX1_either (7 * (5 - o) + 9) 0 0 27 [(1, .int (iI i)), (0, gr g 43)] [] (hp g sh S2) n 0 0 Q := by
      intro k1 l1 S2 e q1 q2 q3 qk
      have q2c := q2
      obtain ⟨-, -, -, -, u0, u1, -, ux, -⟩ := q2c
      refine S_aload_n (pc := 27) dX1_either_27 rfl ?_
      refine S_getR (pc := 28) dX1_either_28 fX1_12 (by assumption) rfl (by assumption) ?_
      refine G_bipush (pc := 31) dX1_either_31 rfl ?_
      refine S_callV (pc := 33) (ci := 7) (d2 := 1) (mc2 := 0) (ms2 := 0) (As := [_]) dX1_either_33 kX7_add lkX1_70 (by assumption) rfl rfl rfl (Nat.le_of_ble_eq_true rfl) ⟨by(omega),by(decide)⟩ (by decide) ?_
      refine c_X7_addC q2 q3 (by rw [len1]; omega) (by unfold IsI; omega) (fun S3 p1 p2 p3 => ?_)
      · show G _ _ _ _ _ _ _ _ _ _ _ _ _
        refine G_iinc (pc := 36) (ls' := [(1, _), (0, _)]) dX1_either_36 rfl (by decide) rfl ?_
        refine G_goto (pc := 39) 6 dX1_either_39 rfl ?_
        refine HL k1 o (l ++ l1 ++ [-11]) S3 n Q (i + 1) (by omega) ho qk.2.1 p2 p3 (by rw [len2]; omega) (by omega) (fun kf S4 e2 v1 v2 v3 => hF kf S4 (hpr _ (by rw [e]; show bnd (prs (tkk B) f 9 k1 o) _ = _; rw [e2]; rfl)) (GaR_tr (GaR_tr q1 p1) v1) v2 v3) (fun k2 l2 S4 e2 v1 v2 v3 vk => hS k2 (l1 ++ (-11 :: l2)) S4 (hpr _ (by rw [e]; show bnd (prs (tkk B) f 9 k1 o) _ = _; rw [e2]; rfl)) (GaR_tr (GaR_tr q1 p1) v1) v2 (GcC_cast v3 ap1) (by rw [len1, len3]; omega))
    refine G_iload_n (pc := 6) dX1_either_6 rfl ?_
    refine G_sipush (pc := 7) dX1_either_7 rfl ?_
    refine G_icmp_ge_f (pc := 10) 42 dX1_either_10 rfl (by omega) (by omega) ?_
    refine S_aload_n (pc := 13) dX1_either_13 rfl ?_
    refine G_sipush (pc := 14) dX1_either_14 rfl ?_
    refine S_callV (pc := 17) (ci := 1) (d2 := 3) (mc2 := 0) (ms2 := 0) (As := [_]) dX1_either_17 kX1_took lkX1_67 (by assumption) rfl rfl rfl (Nat.le_of_ble_eq_true rfl) ⟨by(omega),by(decide)⟩ (by decide) ?_
    refine c_X1_tookC hX hC (by omega) (by decide) (fun _ S1 r1 r2 r3 => ?_) (fun z => absurd c z)
    · show G _ _ _ _ _ _ _ _ _ _ _ _ _
      refine G_if_eq_f (pc := 20) 42 dX1_either_20 rfl (by decide) (by decide) ?_
      refine S_aload_n (pc := 23) dX1_either_23 rfl ?_
      refine S_callV (pc := 24) (ci := 1) (d2 := (7*(5-o)+8)) (mc2 := 0) (ms2 := 0) (As := []) dX1_either_24 kX1_both lkX1_64 (by assumption) rfl rfl rfl (Nat.le_of_ble_eq_true rfl) ⟨by(omega),by(decide)⟩ (by decide) ?_
      refine H0 (k + 1) o l S1 n _ (by omega) ho (by omega) r2 r3 (by omega) (fun kf S2 e q1 q2 q3 => ?_) (fun k1 l1 S2 e q1 q2 q3 qk => ?_)
      · show G _ _ _ _ _ _ _ _ _ _ _ _ _
        first | exact Kf kf S2 e (GaR_tr r1 q1) q2 q3 | exact Ks k1 l1 S2 e (GaR_tr r1 q1) q2 q3 qk
      · show G _ _ _ _ _ _ _ _ _ _ _ _ _
        first | exact Kf kf S2 e (GaR_tr r1 q1) q2 q3 | exact Ks k1 l1 S2 e (GaR_tr r1 q1) q2 q3 qk
  · have hp1 : prs (tkk B) (f + 1) 9 k o = .inr (k, []) := if_neg c
    have hend := hS k [] S hp1 GaR_rf hX (GcC_cast hC (List.append_nil l).symm) ⟨Nat.le_refl _, hk, by rw [List.length_nil]; omega⟩
    refine G_iload_n (pc := 6) dX1_either_6 rfl ?_
    refine G_sipush (pc := 7) dX1_either_7 rfl ?_
    refine G_icmp_ge (pc := 10) 42 dX1_either_10 rfl (by omega) (fun c10 => ?_) (fun c10 => ?_)
    · skip
      refine G_vret (pc := 42) dX1_either_42 rfl (by decide) ?_
      exact hend
    · skip
      refine S_aload_n (pc := 13) dX1_either_13 rfl ?_
      refine G_sipush (pc := 14) dX1_either_14 rfl ?_
      refine S_callV (pc := 17) (ci := 1) (d2 := 3) (mc2 := 0) (ms2 := 0) (As := [_]) dX1_either_17 kX1_took lkX1_67 (by assumption) rfl rfl rfl (Nat.le_of_ble_eq_true rfl) ⟨by(omega),by(decide)⟩ (by decide) ?_
      refine c_X1_tookC hX hC (by omega) (by decide) (fun z => absurd z c) (fun _ => ?_)
      · show G _ _ _ _ _ _ _ _ _ _ _ _ _
        refine G_if_eq_t (pc := 20) 42 dX1_either_20 rfl (by decide) (by decide) ?_
        refine G_vret (pc := 42) dX1_either_42 rfl (by decide) ?_
        exact hend
set_option maxRecDepth 100000 in
set_option maxHeartbeats 4000000 in
theorem ex_summed {g : GC} {sh : SH} {S : SS} {n : Nat} {N fa i : Int} {B : Int → Int} {x o : Nat} {Q : Option Value → GA → Nat → Prop} (ho : o ≤ 5) (hX : GcX sh S N B x) (hC : GcF S o fa) (hi : 0 ≤ i ∧ i ≤ 160) (hq : Q none (hp g sh S) n) : G g mX1_summed (7 * (5 - o) + 6) 0 0 6 [(1, .int (iI i)), (0, gr g 43)] [] (hp g sh S) n 0 0 Q := by
  have h43 := hX.2.2.2.1
  refine G_iload_n (pc := 6) dX1_summed_6 rfl ?_
  refine G_sipush (pc := 7) dX1_summed_7 rfl ?_
  refine G_icmp_ge (pc := 10) 76 dX1_summed_10 rfl (by omega) (fun c10 => ?_) (fun c10 => ?_)
  · skip
    refine G_vret (pc := 76) dX1_summed_76 rfl (by decide) ?_
    exact hq
  · skip
    refine S_aload_n (pc := 13) dX1_summed_13 rfl ?_
    refine G_bipush (pc := 14) dX1_summed_14 rfl ?_
    refine S_callV (pc := 16) (ci := 1) (d2 := 2) (mc2 := 0) (ms2 := 0) (As := [_]) dX1_summed_16 kX1_stands lkX1_54 (by assumption) rfl rfl rfl (Nat.le_of_ble_eq_true rfl) ⟨by(omega),by(decide)⟩ (by decide) ?_
    refine c_X1_standsF hX hC ?_
    · show G _ _ _ _ _ _ _ _ _ _ _ _ _
      refine G_if_ne_f (pc := 19) 31 dX1_summed_19 rfl (by decide) (by decide) ?_
      refine S_aload_n (pc := 22) dX1_summed_22 rfl ?_
      refine G_bipush (pc := 23) dX1_summed_23 rfl ?_
      refine S_callV (pc := 25) (ci := 1) (d2 := 2) (mc2 := 0) (ms2 := 0) (As := [_]) dX1_summed_25 kX1_stands lkX1_54 (by assumption) rfl rfl rfl (Nat.le_of_ble_eq_true rfl) ⟨by(omega),by(decide)⟩ (by decide) ?_
      refine c_X1_standsF hX hC ?_
      · show G _ _ _ _ _ _ _ _ _ _ _ _ _
        refine G_if_eq_t (pc := 28) 76 dX1_summed_28 rfl (by decide) (by decide) ?_
        refine G_vret (pc := 76) dX1_summed_76 rfl (by decide) ?_
        exact hq
set_option maxRecDepth 100000 in
set_option maxHeartbeats 4000000 in
theorem sg_summed {g : GC} {sh : SH} {N : Int} {B : Int → Int} {x f : Nat} (H0 : GaC g sh N B x mX1_term 1 2 5 f) (HL : GaL g sh N B x mX1_summed 7 6 f) : GaC g sh N B x mX1_summed 2 3 6 (f + 1) := by
  intro k o l S n Q hn ho hk hX hC hl hF hS
  have h43 := hX.2.2.2.1
  have hpr : ∀ z : PR, bnd (prs (tkk B) f 1 k o) (fun k1 l1 => bnd (prs (tkk B) f 7 k1 o) (fun k2 l2 => .inr (k2, l1 ++ l2))) = z → prs (tkk B) (f + 1) 2 k o = z := fun z h => h
  have Kf : ∀ (kf : Nat) (S1 : SS), prs (tkk B) f 1 k o = .inl kf → GaR x S S1 → GcX sh S1 N B x → GcF S1 o (tka N B kf) → G g mX1_summed (7 * (5 - o) + 6) 0 0 6 [(1, .int (iI 0)), (0, gr g 43)] [] (hp g sh S1) n 0 0 Q := fun kf S1 e r1 r2 r3 => ex_summed ho r2 r3 (by omega) (hF kf S1 (hpr _ (by rw [e]; rfl)) r1 r2 r3)
  have Ks : ∀ (k1 : Nat) (l1 : List Int) (S1 : SS), prs (tkk B) f 1 k o = .inr (k1, l1) → GaR x S S1 → GcX sh S1 N B x → GcC S1 x k1 o (l ++ l1) → (k ≤ k1 ∧ (k1 : Int) ≤ N ∧ l1.length + k ≤ k1) → G g mX1_summed (7 * (5 - o) + 6) 0 0 6 [(1, .int (iI 0)), (0, gr g 43)] [] (hp g sh S1) n 0 0 Q := fun k1 l1 S1 e r1 r2 r3 rk => HL k1 o (l ++ l1) S1 n Q 0 (by omega) ho rk.2.1 r2 r3 (by rw [len1]; omega) (by omega) (fun kf S2 e2 q1 q2 q3 => hF kf S2 (hpr _ (by rw [e]; show bnd (prs (tkk B) f 7 k1 o) _ = _; rw [e2]; rfl)) (GaR_tr r1 q1) q2 q3) (fun k2 l2 S2 e2 q1 q2 q3 qk => hS k2 (l1 ++ l2) S2 (hpr _ (by rw [e]; show bnd (prs (tkk B) f 7 k1 o) _ = _; rw [e2]; rfl)) (GaR_tr r1 q1) q2 (GcC_cast q3 (List.append_assoc ..)) (by rw [len1]; omega))
  refine GCall.of (by decide) (Nat.le_of_ble_eq_true rfl) (ls := [(0, _)]) rfl ?_
  refine S_aload_n (pc := 0) dX1_summed_0 rfl ?_
  refine S_callV (pc := 1) (ci := 1) (d2 := (7*(5-o)+5)) (mc2 := 0) (ms2 := 0) (As := []) dX1_summed_1 kX1_term lkX1_82 (by assumption) rfl rfl rfl (Nat.le_of_ble_eq_true rfl) ⟨by(omega),by(decide)⟩ (by decide) ?_
  refine H0 k o l S n _ (by omega) ho hk hX hC hl (fun kf S1 e r1 r2 r3 => ?_) (fun k1 l1 S1 e r1 r2 r3 rk => ?_)
  · show G _ _ _ _ _ _ _ _ _ _ _ _ _
    refine G_iconst (pc := 4) dX1_summed_4 ?_
    refine G_istore_n (pc := 5) (ls' := [(1, _), (0, _)]) dX1_summed_5 (by decide) rfl ?_
    first | exact Kf kf S1 e r1 r2 r3 | exact Ks k1 l1 S1 e r1 r2 r3 rk
  · show G _ _ _ _ _ _ _ _ _ _ _ _ _
    refine G_iconst (pc := 4) dX1_summed_4 ?_
    refine G_istore_n (pc := 5) (ls' := [(1, _), (0, _)]) dX1_summed_5 (by decide) rfl ?_
    first | exact Kf kf S1 e r1 r2 r3 | exact Ks k1 l1 S1 e r1 r2 r3 rk
set_option maxRecDepth 100000 in
set_option maxHeartbeats 4000000 in
theorem lg_summed {g : GC} {sh : SH} {N : Int} {B : Int → Int} {x f : Nat} (H0 : GaC g sh N B x mX1_term 1 2 5 f) (HL : GaL g sh N B x mX1_summed 7 6 f) : GaL g sh N B x mX1_summed 7 6 (f + 1) := by
  intro k o l S n Q i hn ho hk hX hC hl hi hF hS
  have h43 := hX.2.2.2.1
  have h44 := hX.2.2.2.2.2.2.1
  have hB := hX.2.2.1
  have hN := hB.1
  by_cases c : tkk B k = 43
  · skip
    have hkN := tk_in hB (k := k) (by omega)
    have hpr : ∀ z : PR, bnd (prs (tkk B) f 1 (k + 1) o) (fun k1 l1 => bnd (prs (tkk B) f 7 k1 o) (fun k2 l2 => .inr (k2, l1 ++ (-16 :: l2)))) = z → prs (tkk B) (f + 1) 7 k o = z := fun z h => (if_pos c).trans h
    have Kf : ∀ (kf : Nat) (S2 : SS), prs (tkk B) f 1 (k + 1) o = .inl kf → GaR x S S2 → GcX sh S2 N B x → GcF S2 o (tka N B kf) → G g mX1_summed (7 * (5 - o) + 6) 0 0 62 [(2, .int (iI (-16))), (1, .int (iI i)), (0, gr g 43)] [] (hp g sh S2) n 0 0 Q := by
      intro kf S2 e q1 q2 q3
      have q2c := q2
      obtain ⟨-, -, -, -, u0, u1, -, ux, -⟩ := q2c
      refine S_aload_n (pc := 62) dX1_summed_62 rfl ?_
      refine S_getR (pc := 63) dX1_summed_63 fX1_12 (by assumption) rfl (by assumption) ?_
      refine G_iload_n (pc := 66) dX1_summed_66 rfl ?_
      refine S_callV (pc := 67) (ci := 7) (d2 := 1) (mc2 := 0) (ms2 := 0) (As := [_]) dX1_summed_67 kX7_add lkX1_70 (by assumption) rfl rfl rfl (Nat.le_of_ble_eq_true rfl) ⟨by(omega),by(decide)⟩ (by decide) ?_
      refine c_X7_addF q2 q3 (by unfold IsI; omega) (fun S3 p1 p2 p3 => ?_)
      · show G _ _ _ _ _ _ _ _ _ _ _ _ _
        refine G_iinc (pc := 70) (ls' := [(1, _), (2, _), (0, _)]) dX1_summed_70 rfl (by decide) rfl ?_
        refine G_goto (pc := 73) 6 dX1_summed_73 rfl ?_
        refine G_ls (ls' := [(1, _), (0, _)]) (lsub_c rfl (lsub_c rfl lsub_n)) ?_
        exact ex_summed ho p2 p3 (by omega) (hF kf S3 (hpr _ (by rw [e]; rfl)) (GaR_tr q1 p1) p2 p3)
    have Ks : ∀ (k1 : Nat) (l1 : List Int) (S2 : SS), prs (tkk B) f 1 (k + 1) o = .inr (k1, l1) → GaR x S S2 → GcX sh S2 N B x → GcC S2 x k1 o (l ++ l1) → (k + 1 ≤ k1 ∧ (k1 : Int) ≤ N ∧ l1.length + (k + 1) ≤ k1) → G g mX1_summed (7 * (5 - o) + 6) 0 0 62 [(2, .int (iI (-16))), (1, .int (iI i)), (0, gr g 43)] [] (hp g sh S2) n 0 0 Q := by
      intro k1 l1 S2 e q1 q2 q3 qk
      have q2c := q2
      obtain ⟨-, -, -, -, u0, u1, -, ux, -⟩ := q2c
      refine S_aload_n (pc := 62) dX1_summed_62 rfl ?_
      refine S_getR (pc := 63) dX1_summed_63 fX1_12 (by assumption) rfl (by assumption) ?_
      refine G_iload_n (pc := 66) dX1_summed_66 rfl ?_
      refine S_callV (pc := 67) (ci := 7) (d2 := 1) (mc2 := 0) (ms2 := 0) (As := [_]) dX1_summed_67 kX7_add lkX1_70 (by assumption) rfl rfl rfl (Nat.le_of_ble_eq_true rfl) ⟨by(omega),by(decide)⟩ (by decide) ?_
      refine c_X7_addC q2 q3 (by rw [len1]; omega) (by unfold IsI; omega) (fun S3 p1 p2 p3 => ?_)
      · show G _ _ _ _ _ _ _ _ _ _ _ _ _
        refine G_iinc (pc := 70) (ls' := [(1, _), (2, _), (0, _)]) dX1_summed_70 rfl (by decide) rfl ?_
        refine G_goto (pc := 73) 6 dX1_summed_73 rfl ?_
        refine G_ls (ls' := [(1, _), (0, _)]) (lsub_c rfl (lsub_c rfl lsub_n)) ?_
        refine HL k1 o (l ++ l1 ++ [-16]) S3 n Q (i + 1) (by omega) ho qk.2.1 p2 p3 (by rw [len2]; omega) (by omega) (fun kf S4 e2 v1 v2 v3 => hF kf S4 (hpr _ (by rw [e]; show bnd (prs (tkk B) f 7 k1 o) _ = _; rw [e2]; rfl)) (GaR_tr (GaR_tr q1 p1) v1) v2 v3) (fun k2 l2 S4 e2 v1 v2 v3 vk => hS k2 (l1 ++ (-16 :: l2)) S4 (hpr _ (by rw [e]; show bnd (prs (tkk B) f 7 k1 o) _ = _; rw [e2]; rfl)) (GaR_tr (GaR_tr q1 p1) v1) v2 (GcC_cast v3 ap1) (by rw [len1, len3]; omega))
    refine G_iload_n (pc := 6) dX1_summed_6 rfl ?_
    refine G_sipush (pc := 7) dX1_summed_7 rfl ?_
    refine G_icmp_ge_f (pc := 10) 76 dX1_summed_10 rfl (by omega) (by omega) ?_
    refine S_aload_n (pc := 13) dX1_summed_13 rfl ?_
    refine G_bipush (pc := 14) dX1_summed_14 rfl ?_
    refine S_callV (pc := 16) (ci := 1) (d2 := 2) (mc2 := 0) (ms2 := 0) (As := [_]) dX1_summed_16 kX1_stands lkX1_54 (by assumption) rfl rfl rfl (Nat.le_of_ble_eq_true rfl) ⟨by(omega),by(decide)⟩ (by decide) ?_
    refine c_X1_standsC hX hC (by omega) (by decide) (fun _ => ?_) (fun z => absurd c z)
    · show G _ _ _ _ _ _ _ _ _ _ _ _ _
      refine G_if_ne_t (pc := 19) 31 dX1_summed_19 rfl (by decide) (by decide) ?_
      refine S_aload_n (pc := 31) dX1_summed_31 rfl ?_
      refine G_bipush (pc := 32) dX1_summed_32 rfl ?_
      refine S_callV (pc := 34) (ci := 1) (d2 := 2) (mc2 := 0) (ms2 := 0) (As := [_]) dX1_summed_34 kX1_stands lkX1_54 (by assumption) rfl rfl rfl (Nat.le_of_ble_eq_true rfl) ⟨by(omega),by(decide)⟩ (by decide) ?_
      refine c_X1_standsC hX hC (by omega) (by decide) (fun _ => ?_) (fun z => absurd c z)
      · show G _ _ _ _ _ _ _ _ _ _ _ _ _
        refine G_if_eq_f (pc := 37) 45 dX1_summed_37 rfl (by decide) (by decide) ?_
        refine G_bipush (pc := 40) dX1_summed_40 rfl ?_
        refine G_goto (pc := 42) 47 dX1_summed_42 rfl ?_
        refine G_istore_n (pc := 47) (ls' := [(2, _), (1, _), (0, _)]) dX1_summed_47 (by decide) rfl ?_
        refine S_aload_n (pc := 48) dX1_summed_48 rfl ?_
        refine G_dup (pc := 49) dX1_summed_49 rfl ?_
        refine S_getI (pc := 50) dX1_summed_50 fX1_32 (by assumption) rfl ?_
        refine G_iconst (pc := 53) dX1_summed_53 ?_
        refine G_iadd (pc := 54) dX1_summed_54 ?_
        refine S_putI (pc := 55) dX1_summed_55 fX1_32 (by assumption) rfl ⟨rfl, rfl⟩ ?_
        refine S_aload_n (pc := 58) dX1_summed_58 rfl ?_
        refine S_callV (pc := 59) (ci := 1) (d2 := (7*(5-o)+5)) (mc2 := 0) (ms2 := 0) (As := []) dX1_summed_59 kX1_term lkX1_82 (by assumption) rfl rfl rfl (Nat.le_of_ble_eq_true rfl) ⟨by(omega),by(decide)⟩ (by decide) ?_
        refine H0 (k + 1) o l _ n _ (by omega) ho (by omega) (GcX_43 (by decide) hX) (GcC_n h44 hC) (by omega) (fun kf S2 e q1 q2 q3 => ?_) (fun k1 l1 S2 e q1 q2 q3 qk => ?_)
        · show G _ _ _ _ _ _ _ _ _ _ _ _ _
          first | exact Kf kf S2 e (GaR_tr (GaR_43 (by decide)) q1) q2 q3 | exact Ks k1 l1 S2 e (GaR_tr (GaR_43 (by decide)) q1) q2 q3 qk
        · show G _ _ _ _ _ _ _ _ _ _ _ _ _
          first | exact Kf kf S2 e (GaR_tr (GaR_43 (by decide)) q1) q2 q3 | exact Ks k1 l1 S2 e (GaR_tr (GaR_43 (by decide)) q1) q2 q3 qk
  · by_cases d : tkk B k = 45
    · skip
      have hkN := tk_in hB (k := k) (by omega)
      have hpr : ∀ z : PR, bnd (prs (tkk B) f 1 (k + 1) o) (fun k1 l1 => bnd (prs (tkk B) f 7 k1 o) (fun k2 l2 => .inr (k2, l1 ++ (-17 :: l2)))) = z → prs (tkk B) (f + 1) 7 k o = z := fun z h => (if_neg c).trans ((if_pos d).trans h)
      have Kf : ∀ (kf : Nat) (S2 : SS), prs (tkk B) f 1 (k + 1) o = .inl kf → GaR x S S2 → GcX sh S2 N B x → GcF S2 o (tka N B kf) → G g mX1_summed (7 * (5 - o) + 6) 0 0 62 [(2, .int (iI (-17))), (1, .int (iI i)), (0, gr g 43)] [] (hp g sh S2) n 0 0 Q := by
        intro kf S2 e q1 q2 q3
        have q2c := q2
        obtain ⟨-, -, -, -, u0, u1, -, ux, -⟩ := q2c
        refine S_aload_n (pc := 62) dX1_summed_62 rfl ?_
        refine S_getR (pc := 63) dX1_summed_63 fX1_12 (by assumption) rfl (by assumption) ?_
        refine G_iload_n (pc := 66) dX1_summed_66 rfl ?_
        refine S_callV (pc := 67) (ci := 7) (d2 := 1) (mc2 := 0) (ms2 := 0) (As := [_]) dX1_summed_67 kX7_add lkX1_70 (by assumption) rfl rfl rfl (Nat.le_of_ble_eq_true rfl) ⟨by(omega),by(decide)⟩ (by decide) ?_
        refine c_X7_addF q2 q3 (by unfold IsI; omega) (fun S3 p1 p2 p3 => ?_)
        · show G _ _ _ _ _ _ _ _ _ _ _ _ _
          refine G_iinc (pc := 70) (ls' := [(1, _), (2, _), (0, _)]) dX1_summed_70 rfl (by decide) rfl ?_
          refine G_goto (pc := 73) 6 dX1_summed_73 rfl ?_
          refine G_ls (ls' := [(1, _), (0, _)]) (lsub_c rfl (lsub_c rfl lsub_n)) ?_
          exact ex_summed ho p2 p3 (by omega) (hF kf S3 (hpr _ (by rw [e]; rfl)) (GaR_tr q1 p1) p2 p3)
      have Ks : ∀ (k1 : Nat) (l1 : List Int) (S2 : SS), prs (tkk B) f 1 (k + 1) o = .inr (k1, l1) → GaR x S S2 → GcX sh S2 N B x → GcC S2 x k1 o (l ++ l1) → (k + 1 ≤ k1 ∧ (k1 : Int) ≤ N ∧ l1.length + (k + 1) ≤ k1) → G g mX1_summed (7 * (5 - o) + 6) 0 0 62 [(2, .int (iI (-17))), (1, .int (iI i)), (0, gr g 43)] [] (hp g sh S2) n 0 0 Q := by
        intro k1 l1 S2 e q1 q2 q3 qk
        have q2c := q2
        obtain ⟨-, -, -, -, u0, u1, -, ux, -⟩ := q2c
        refine S_aload_n (pc := 62) dX1_summed_62 rfl ?_
        refine S_getR (pc := 63) dX1_summed_63 fX1_12 (by assumption) rfl (by assumption) ?_
        refine G_iload_n (pc := 66) dX1_summed_66 rfl ?_
        refine S_callV (pc := 67) (ci := 7) (d2 := 1) (mc2 := 0) (ms2 := 0) (As := [_]) dX1_summed_67 kX7_add lkX1_70 (by assumption) rfl rfl rfl (Nat.le_of_ble_eq_true rfl) ⟨by(omega),by(decide)⟩ (by decide) ?_
        refine c_X7_addC q2 q3 (by rw [len1]; omega) (by unfold IsI; omega) (fun S3 p1 p2 p3 => ?_)
        · show G _ _ _ _ _ _ _ _ _ _ _ _ _
          refine G_iinc (pc := 70) (ls' := [(1, _), (2, _), (0, _)]) dX1_summed_70 rfl (by decide) rfl ?_
          refine G_goto (pc := 73) 6 dX1_summed_73 rfl ?_
          refine G_ls (ls' := [(1, _), (0, _)]) (lsub_c rfl (lsub_c rfl lsub_n)) ?_
          refine HL k1 o (l ++ l1 ++ [-17]) S3 n Q (i + 1) (by omega) ho qk.2.1 p2 p3 (by rw [len2]; omega) (by omega) (fun kf S4 e2 v1 v2 v3 => hF kf S4 (hpr _ (by rw [e]; show bnd (prs (tkk B) f 7 k1 o) _ = _; rw [e2]; rfl)) (GaR_tr (GaR_tr q1 p1) v1) v2 v3) (fun k2 l2 S4 e2 v1 v2 v3 vk => hS k2 (l1 ++ (-17 :: l2)) S4 (hpr _ (by rw [e]; show bnd (prs (tkk B) f 7 k1 o) _ = _; rw [e2]; rfl)) (GaR_tr (GaR_tr q1 p1) v1) v2 (GcC_cast v3 ap1) (by rw [len1, len3]; omega))
      refine G_iload_n (pc := 6) dX1_summed_6 rfl ?_
      refine G_sipush (pc := 7) dX1_summed_7 rfl ?_
      refine G_icmp_ge_f (pc := 10) 76 dX1_summed_10 rfl (by omega) (by omega) ?_
      refine S_aload_n (pc := 13) dX1_summed_13 rfl ?_
      refine G_bipush (pc := 14) dX1_summed_14 rfl ?_
      refine S_callV (pc := 16) (ci := 1) (d2 := 2) (mc2 := 0) (ms2 := 0) (As := [_]) dX1_summed_16 kX1_stands lkX1_54 (by assumption) rfl rfl rfl (Nat.le_of_ble_eq_true rfl) ⟨by(omega),by(decide)⟩ (by decide) ?_
      refine c_X1_standsC hX hC (by omega) (by decide) (fun z => absurd z c) (fun _ => ?_)
      · show G _ _ _ _ _ _ _ _ _ _ _ _ _
        refine G_if_ne_f (pc := 19) 31 dX1_summed_19 rfl (by decide) (by decide) ?_
        refine S_aload_n (pc := 22) dX1_summed_22 rfl ?_
        refine G_bipush (pc := 23) dX1_summed_23 rfl ?_
        refine S_callV (pc := 25) (ci := 1) (d2 := 2) (mc2 := 0) (ms2 := 0) (As := [_]) dX1_summed_25 kX1_stands lkX1_54 (by assumption) rfl rfl rfl (Nat.le_of_ble_eq_true rfl) ⟨by(omega),by(decide)⟩ (by decide) ?_
        refine c_X1_standsC hX hC (by omega) (by decide) (fun _ => ?_) (fun z => absurd d z)
        · show G _ _ _ _ _ _ _ _ _ _ _ _ _
          refine G_if_eq_f (pc := 28) 76 dX1_summed_28 rfl (by decide) (by decide) ?_
          refine S_aload_n (pc := 31) dX1_summed_31 rfl ?_
          refine G_bipush (pc := 32) dX1_summed_32 rfl ?_
          refine S_callV (pc := 34) (ci := 1) (d2 := 2) (mc2 := 0) (ms2 := 0) (As := [_]) dX1_summed_34 kX1_stands lkX1_54 (by assumption) rfl rfl rfl (Nat.le_of_ble_eq_true rfl) ⟨by(omega),by(decide)⟩ (by decide) ?_
          refine c_X1_standsC hX hC (by omega) (by decide) (fun z => absurd z c) (fun _ => ?_)
          · show G _ _ _ _ _ _ _ _ _ _ _ _ _
            refine G_if_eq_t (pc := 37) 45 dX1_summed_37 rfl (by decide) (by decide) ?_
            refine G_bipush (pc := 45) dX1_summed_45 rfl ?_
            refine G_istore_n (pc := 47) (ls' := [(2, _), (1, _), (0, _)]) dX1_summed_47 (by decide) rfl ?_
            refine S_aload_n (pc := 48) dX1_summed_48 rfl ?_
            refine G_dup (pc := 49) dX1_summed_49 rfl ?_
            refine S_getI (pc := 50) dX1_summed_50 fX1_32 (by assumption) rfl ?_
            refine G_iconst (pc := 53) dX1_summed_53 ?_
            refine G_iadd (pc := 54) dX1_summed_54 ?_
            refine S_putI (pc := 55) dX1_summed_55 fX1_32 (by assumption) rfl ⟨rfl, rfl⟩ ?_
            refine S_aload_n (pc := 58) dX1_summed_58 rfl ?_
            refine S_callV (pc := 59) (ci := 1) (d2 := (7*(5-o)+5)) (mc2 := 0) (ms2 := 0) (As := []) dX1_summed_59 kX1_term lkX1_82 (by assumption) rfl rfl rfl (Nat.le_of_ble_eq_true rfl) ⟨by(omega),by(decide)⟩ (by decide) ?_
            refine H0 (k + 1) o l _ n _ (by omega) ho (by omega) (GcX_43 (by decide) hX) (GcC_n h44 hC) (by omega) (fun kf S2 e q1 q2 q3 => ?_) (fun k1 l1 S2 e q1 q2 q3 qk => ?_)
            · show G _ _ _ _ _ _ _ _ _ _ _ _ _
              first | exact Kf kf S2 e (GaR_tr (GaR_43 (by decide)) q1) q2 q3 | exact Ks k1 l1 S2 e (GaR_tr (GaR_43 (by decide)) q1) q2 q3 qk
            · show G _ _ _ _ _ _ _ _ _ _ _ _ _
              first | exact Kf kf S2 e (GaR_tr (GaR_43 (by decide)) q1) q2 q3 | exact Ks k1 l1 S2 e (GaR_tr (GaR_43 (by decide)) q1) q2 q3 qk
    · have hp1 : prs (tkk B) (f + 1) 7 k o = .inr (k, []) := (if_neg c).trans (if_neg d)
      have hend := hS k [] S hp1 GaR_rf hX (GcC_cast hC (List.append_nil l).symm) ⟨Nat.le_refl _, hk, by rw [List.length_nil]; omega⟩
      refine G_iload_n (pc := 6) dX1_summed_6 rfl ?_
      refine G_sipush (pc := 7) dX1_summed_7 rfl ?_
      refine G_icmp_ge (pc := 10) 76 dX1_summed_10 rfl (by omega) (fun c10 => ?_) (fun c10 => ?_)
      · skip
        refine G_vret (pc := 76) dX1_summed_76 rfl (by decide) ?_
        exact hend
      · skip
        refine S_aload_n (pc := 13) dX1_summed_13 rfl ?_
        refine G_bipush (pc := 14) dX1_summed_14 rfl ?_
        refine S_callV (pc := 16) (ci := 1) (d2 := 2) (mc2 := 0) (ms2 := 0) (As := [_]) dX1_summed_16 kX1_stands lkX1_54 (by assumption) rfl rfl rfl (Nat.le_of_ble_eq_true rfl) ⟨by(omega),by(decide)⟩ (by decide) ?_
        refine c_X1_standsC hX hC (by omega) (by decide) (fun z => absurd z c) (fun _ => ?_)
        · show G _ _ _ _ _ _ _ _ _ _ _ _ _
          refine G_if_ne_f (pc := 19) 31 dX1_summed_19 rfl (by decide) (by decide) ?_
          refine S_aload_n (pc := 22) dX1_summed_22 rfl ?_
          refine G_bipush (pc := 23) dX1_summed_23 rfl ?_
          refine S_callV (pc := 25) (ci := 1) (d2 := 2) (mc2 := 0) (ms2 := 0) (As := [_]) dX1_summed_25 kX1_stands lkX1_54 (by assumption) rfl rfl rfl (Nat.le_of_ble_eq_true rfl) ⟨by(omega),by(decide)⟩ (by decide) ?_
          refine c_X1_standsC hX hC (by omega) (by decide) (fun z => absurd z d) (fun _ => ?_)
          · show G _ _ _ _ _ _ _ _ _ _ _ _ _
            refine G_if_eq_t (pc := 28) 76 dX1_summed_28 rfl (by decide) (by decide) ?_
            refine G_vret (pc := 76) dX1_summed_76 rfl (by decide) ?_
            exact hend
set_option maxRecDepth 100000 in
set_option maxHeartbeats 4000000 in
theorem sg_negated {g : GC} {sh : SH} {N : Int} {B : Int → Int} {x f : Nat} (H0 : GaC g sh N B x mX1_summed 2 3 6 f) (HN : GaC g sh N B x mX1_negated 3 4 7 f) : GaC g sh N B x mX1_negated 3 4 7 (f + 1) := by
  intro k o l S n Q hn ho hk hX hC hl hF hS
  have hXc := hX
  obtain ⟨hTa, hTk, hB, h43, -, -, h44, hTx⟩ := hXc
  have hN := hB.1
  refine GCall.of (by decide) (Nat.le_of_ble_eq_true rfl) (ls := [(0, _)]) rfl ?_
  by_cases c : tkk B k = 265 ∧ o < 5
  · have hkN := tk_in hB (k := k) (by omega)
    have hpr : ∀ z : PR, bnd (prs (tkk B) f 3 (k + 1) (o + 1)) (fun k1 l1 => .inr (k1, l1 ++ [-13])) = z → prs (tkk B) (f + 1) 3 k o = z := fun z h => (if_pos c).trans h
    have Kf : ∀ (kf : Nat) (S2 : SS), prs (tkk B) f 3 (k + 1) (o + 1) = .inl kf → GaR x S S2 → GcX sh S2 N B x → GcF S2 (o + 1) (tka N B kf) → G g mX1_negated (7 * (5 - o) + 7) 0 0 14 [(0, gr g 43)] [] (hp g sh S2) n 0 0 Q := by
      intro kf S2 e q1 q2 q3
      have q2c := q2
      obtain ⟨-, -, -, -, u0, u1, -, ux, -⟩ := q2c
      refine S_aload_n (pc := 14) dX1_negated_14 rfl ?_
      refine S_getR (pc := 15) dX1_negated_15 fX1_12 (by assumption) rfl (by assumption) ?_
      refine G_bipush (pc := 18) dX1_negated_18 rfl ?_
      refine S_callV (pc := 20) (ci := 7) (d2 := 1) (mc2 := 0) (ms2 := 0) (As := [_]) dX1_negated_20 kX7_add lkX1_70 (by assumption) rfl rfl rfl (Nat.le_of_ble_eq_true rfl) ⟨by(omega),by(decide)⟩ (by decide) ?_
      refine c_X7_addF q2 q3 (by unfold IsI; omega) (fun S3 p1 p2 p3 => ?_)
      · show G _ _ _ _ _ _ _ _ _ _ _ _ _
        refine S_aload_n (pc := 23) dX1_negated_23 rfl ?_
        refine G_dup (pc := 24) dX1_negated_24 rfl ?_
        refine S_getI (pc := 25) dX1_negated_25 fX1_29 (by assumption) rfl ?_
        refine G_iconst (pc := 28) dX1_negated_28 ?_
        refine G_isub (pc := 29) dX1_negated_29 ?_
        refine S_putI (pc := 30) dX1_negated_30 fX1_29 (by assumption) rfl ⟨rfl, rfl⟩ ?_
        refine G_vret (pc := 33) dX1_negated_33 rfl (by decide) ?_
        exact hF kf _ (hpr _ (by rw [e]; rfl)) (GaR_tr (GaR_tr q1 p1) (GaR_43 (by decide))) (GcX_43 (by decide) p2) (GcF_o p3 (by rw [p3.1]; omega))
    have Ks : ∀ (k1 : Nat) (l1 : List Int) (S2 : SS), prs (tkk B) f 3 (k + 1) (o + 1) = .inr (k1, l1) → GaR x S S2 → GcX sh S2 N B x → GcC S2 x k1 (o + 1) (l ++ l1) → (k + 1 ≤ k1 ∧ (k1 : Int) ≤ N ∧ l1.length + (k + 1) ≤ k1) → G g mX1_negated (7 * (5 - o) + 7) 0 0 14 [(0, gr g 43)] [] (hp g sh S2) n 0 0 Q := by
      intro k1 l1 S2 e q1 q2 q3 qk
      have q2c := q2
      obtain ⟨-, -, -, -, u0, u1, -, ux, -⟩ := q2c
      refine S_aload_n (pc := 14) dX1_negated_14 rfl ?_
      refine S_getR (pc := 15) dX1_negated_15 fX1_12 (by assumption) rfl (by assumption) ?_
      refine G_bipush (pc := 18) dX1_negated_18 rfl ?_
      refine S_callV (pc := 20) (ci := 7) (d2 := 1) (mc2 := 0) (ms2 := 0) (As := [_]) dX1_negated_20 kX7_add lkX1_70 (by assumption) rfl rfl rfl (Nat.le_of_ble_eq_true rfl) ⟨by(omega),by(decide)⟩ (by decide) ?_
      refine c_X7_addC q2 q3 (by rw [len1]; omega) (by unfold IsI; omega) (fun S3 p1 p2 p3 => ?_)
      · show G _ _ _ _ _ _ _ _ _ _ _ _ _
        refine S_aload_n (pc := 23) dX1_negated_23 rfl ?_
        refine G_dup (pc := 24) dX1_negated_24 rfl ?_
        refine S_getI (pc := 25) dX1_negated_25 fX1_29 (by assumption) rfl ?_
        refine G_iconst (pc := 28) dX1_negated_28 ?_
        refine G_isub (pc := 29) dX1_negated_29 ?_
        refine S_putI (pc := 30) dX1_negated_30 fX1_29 (by assumption) rfl ⟨rfl, rfl⟩ ?_
        refine G_vret (pc := 33) dX1_negated_33 rfl (by decide) ?_
        exact hS k1 (l1 ++ [-13]) _ (hpr _ (by rw [e]; rfl)) (GaR_tr (GaR_tr q1 p1) (GaR_43 (by decide))) (GcX_43 (by decide) p2) (GcC_o h44 (GcC_cast p3 ap2) (by rw [p3.2.1]; omega)) (by rw [len1]; show _ ∧ _ ∧ l1.length + 1 + k ≤ k1; omega)
    refine S_aload_n (pc := 0) dX1_negated_0 rfl ?_
    refine G_sipush (pc := 1) dX1_negated_1 rfl ?_
    refine S_callV (pc := 4) (ci := 1) (d2 := 3) (mc2 := 0) (ms2 := 0) (As := [_]) dX1_negated_4 kX1_opened lkX1_76 (by assumption) rfl rfl rfl (Nat.le_of_ble_eq_true rfl) ⟨by(omega),by(decide)⟩ (by decide) ?_
    refine c_X1_openedC hX hC ho (by omega) (by decide) (fun _ S1 r1 r2 r3 => ?_) (fun z => absurd c z)
    · show G _ _ _ _ _ _ _ _ _ _ _ _ _
      refine G_if_eq_f (pc := 7) 34 dX1_negated_7 rfl (by decide) (by decide) ?_
      refine S_aload_n (pc := 10) dX1_negated_10 rfl ?_
      refine S_callV (pc := 11) (ci := 1) (d2 := (7*(5-(o+1))+7)) (mc2 := 0) (ms2 := 0) (As := []) dX1_negated_11 kX1_negated lkX1_73 (by assumption) rfl rfl rfl (Nat.le_of_ble_eq_true rfl) ⟨by(omega),by(decide)⟩ (by decide) ?_
      refine HN (k + 1) (o + 1) l S1 n _ (by omega) (by omega) (by omega) r2 r3 (by omega) (fun kf S2 e q1 q2 q3 => ?_) (fun k1 l1 S2 e q1 q2 q3 qk => ?_)
      · show G _ _ _ _ _ _ _ _ _ _ _ _ _
        first | exact Kf kf S2 e (GaR_tr r1 q1) q2 q3 | exact Ks k1 l1 S2 e (GaR_tr r1 q1) q2 q3 qk
      · show G _ _ _ _ _ _ _ _ _ _ _ _ _
        first | exact Kf kf S2 e (GaR_tr r1 q1) q2 q3 | exact Ks k1 l1 S2 e (GaR_tr r1 q1) q2 q3 qk
  · have hpr : ∀ z : PR, bnd (prs (tkk B) f 2 k o) (fun k1 l1 => if tkk B k1 = 60 then bnd (prs (tkk B) f 2 (k1 + 1) o) (fun k2 l2 => .inr (k2, l1 ++ (l2 ++ [-14]))) else if tkk B k1 = 61 then bnd (prs (tkk B) f 2 (k1 + 1) o) (fun k2 l2 => .inr (k2, l1 ++ (l2 ++ [-15]))) else .inr (k1, l1)) = z → prs (tkk B) (f + 1) 3 k o = z := fun z h => (if_neg c).trans h
    have Kf : ∀ (kf : Nat) (S1 : SS), prs (tkk B) f 2 k o = .inl kf → GaR x S S1 → GcX sh S1 N B x → GcF S1 o (tka N B kf) → G g mX1_negated (7 * (5 - o) + 7) 0 0 38 [(0, gr g 43)] [] (hp g sh S1) n 0 0 Q := by
      intro kf S1 e q1 q2 q3
      refine S_aload_n (pc := 38) dX1_negated_38 rfl ?_
      refine G_bipush (pc := 39) dX1_negated_39 rfl ?_
      refine S_callV (pc := 41) (ci := 1) (d2 := 3) (mc2 := 0) (ms2 := 0) (As := [_]) dX1_negated_41 kX1_took lkX1_67 (by assumption) rfl rfl rfl (Nat.le_of_ble_eq_true rfl) ⟨by(omega),by(decide)⟩ (by decide) ?_
      refine c_X1_tookF q2 q3 ?_
      · show G _ _ _ _ _ _ _ _ _ _ _ _ _
        refine G_if_eq_t (pc := 44) 63 dX1_negated_44 rfl (by decide) (by decide) ?_
        refine S_aload_n (pc := 63) dX1_negated_63 rfl ?_
        refine G_bipush (pc := 64) dX1_negated_64 rfl ?_
        refine S_callV (pc := 66) (ci := 1) (d2 := 3) (mc2 := 0) (ms2 := 0) (As := [_]) dX1_negated_66 kX1_took lkX1_67 (by assumption) rfl rfl rfl (Nat.le_of_ble_eq_true rfl) ⟨by(omega),by(decide)⟩ (by decide) ?_
        refine c_X1_tookF q2 q3 ?_
        · show G _ _ _ _ _ _ _ _ _ _ _ _ _
          refine G_if_eq_t (pc := 69) 85 dX1_negated_69 rfl (by decide) (by decide) ?_
          refine G_vret (pc := 85) dX1_negated_85 rfl (by decide) ?_
          exact hF kf S1 (hpr _ (by rw [e]; rfl)) q1 q2 q3
    have Ks : ∀ (k1 : Nat) (l1 : List Int) (S1 : SS), prs (tkk B) f 2 k o = .inr (k1, l1) → GaR x S S1 → GcX sh S1 N B x → GcC S1 x k1 o (l ++ l1) → (k ≤ k1 ∧ (k1 : Int) ≤ N ∧ l1.length + k ≤ k1) → G g mX1_negated (7 * (5 - o) + 7) 0 0 38 [(0, gr g 43)] [] (hp g sh S1) n 0 0 Q := by
      intro k1 l1 S1 e r1 r2 r3 rk
      by_cases d1 : tkk B k1 = 60
      · skip
        have hkN := tk_in hB (k := k1) (by omega)
        have hpz : ∀ z : PR, bnd (prs (tkk B) f 2 (k1 + 1) o) (fun k2 l2 => .inr (k2, l1 ++ (l2 ++ [-14]))) = z → prs (tkk B) (f + 1) 3 k o = z := fun z h => hpr _ (by rw [e]; exact (if_pos d1).trans h)
        have Jf : ∀ (kf : Nat) (S2 : SS), prs (tkk B) f 2 (k1 + 1) o = .inl kf → GaR x S S2 → GcX sh S2 N B x → GcF S2 o (tka N B kf) → G g mX1_negated (7 * (5 - o) + 7) 0 0 51 [(0, gr g 43)] [] (hp g sh S2) n 0 0 Q := by
          intro kf S2 e q1 q2 q3
          have q2c := q2
          obtain ⟨-, -, -, -, u0, u1, -, ux, -⟩ := q2c
          refine S_aload_n (pc := 51) dX1_negated_51 rfl ?_
          refine S_getR (pc := 52) dX1_negated_52 fX1_12 (by assumption) rfl (by assumption) ?_
          refine G_bipush (pc := 55) dX1_negated_55 rfl ?_
          refine S_callV (pc := 57) (ci := 7) (d2 := 1) (mc2 := 0) (ms2 := 0) (As := [_]) dX1_negated_57 kX7_add lkX1_70 (by assumption) rfl rfl rfl (Nat.le_of_ble_eq_true rfl) ⟨by(omega),by(decide)⟩ (by decide) ?_
          refine c_X7_addF q2 q3 (by unfold IsI; omega) (fun S3 p1 p2 p3 => ?_)
          · show G _ _ _ _ _ _ _ _ _ _ _ _ _
            refine G_goto (pc := 60) 85 dX1_negated_60 rfl ?_
            refine G_vret (pc := 85) dX1_negated_85 rfl (by decide) ?_
            exact hF kf _ (hpz _ (by rw [e]; rfl)) (GaR_tr q1 p1) p2 p3
        have Js : ∀ (k2 : Nat) (l2 : List Int) (S2 : SS), prs (tkk B) f 2 (k1 + 1) o = .inr (k2, l2) → GaR x S S2 → GcX sh S2 N B x → GcC S2 x k2 o (l ++ l1 ++ l2) → (k1 + 1 ≤ k2 ∧ (k2 : Int) ≤ N ∧ l2.length + (k1 + 1) ≤ k2) → G g mX1_negated (7 * (5 - o) + 7) 0 0 51 [(0, gr g 43)] [] (hp g sh S2) n 0 0 Q := by
          intro k2 l2 S2 e q1 q2 q3 qk
          have q2c := q2
          obtain ⟨-, -, -, -, u0, u1, -, ux, -⟩ := q2c
          refine S_aload_n (pc := 51) dX1_negated_51 rfl ?_
          refine S_getR (pc := 52) dX1_negated_52 fX1_12 (by assumption) rfl (by assumption) ?_
          refine G_bipush (pc := 55) dX1_negated_55 rfl ?_
          refine S_callV (pc := 57) (ci := 7) (d2 := 1) (mc2 := 0) (ms2 := 0) (As := [_]) dX1_negated_57 kX7_add lkX1_70 (by assumption) rfl rfl rfl (Nat.le_of_ble_eq_true rfl) ⟨by(omega),by(decide)⟩ (by decide) ?_
          refine c_X7_addC q2 q3 (by rw [len1, len1]; omega) (by unfold IsI; omega) (fun S3 p1 p2 p3 => ?_)
          · show G _ _ _ _ _ _ _ _ _ _ _ _ _
            refine G_goto (pc := 60) 85 dX1_negated_60 rfl ?_
            refine G_vret (pc := 85) dX1_negated_85 rfl (by decide) ?_
            exact hS k2 (l1 ++ (l2 ++ [-14])) _ (hpz _ (by rw [e]; rfl)) (GaR_tr q1 p1) p2 (GcC_cast p3 ap3) (by rw [len1, len1]; show _ ∧ _ ∧ l1.length + (l2.length + 1) + k ≤ k2; omega)
        refine S_aload_n (pc := 38) dX1_negated_38 rfl ?_
        refine G_bipush (pc := 39) dX1_negated_39 rfl ?_
        refine S_callV (pc := 41) (ci := 1) (d2 := 3) (mc2 := 0) (ms2 := 0) (As := [_]) dX1_negated_41 kX1_took lkX1_67 (by assumption) rfl rfl rfl (Nat.le_of_ble_eq_true rfl) ⟨by(omega),by(decide)⟩ (by decide) ?_
        refine c_X1_tookC r2 r3 (by omega) (by decide) (fun _ S2 t1 t2 t3 => ?_) (fun z => absurd d1 z)
        · show G _ _ _ _ _ _ _ _ _ _ _ _ _
          refine G_if_eq_f (pc := 44) 63 dX1_negated_44 rfl (by decide) (by decide) ?_
          refine S_aload_n (pc := 47) dX1_negated_47 rfl ?_
          refine S_callV (pc := 48) (ci := 1) (d2 := (7*(5-o)+6)) (mc2 := 0) (ms2 := 0) (As := []) dX1_negated_48 kX1_summed lkX1_79 (by assumption) rfl rfl rfl (Nat.le_of_ble_eq_true rfl) ⟨by(omega),by(decide)⟩ (by decide) ?_
          refine H0 (k1 + 1) o (l ++ l1) S2 n _ (by omega) ho (by omega) t2 t3 (by rw [len1]; omega) (fun kf S3 e q1 q2 q3 => ?_) (fun k2 l2 S3 e q1 q2 q3 qk => ?_)
          · show G _ _ _ _ _ _ _ _ _ _ _ _ _
            first | exact Jf kf S3 e (GaR_tr (GaR_tr r1 t1) q1) q2 q3 | exact Js k2 l2 S3 e (GaR_tr (GaR_tr r1 t1) q1) q2 q3 qk
          · show G _ _ _ _ _ _ _ _ _ _ _ _ _
            first | exact Jf kf S3 e (GaR_tr (GaR_tr r1 t1) q1) q2 q3 | exact Js k2 l2 S3 e (GaR_tr (GaR_tr r1 t1) q1) q2 q3 qk
      · by_cases d2 : tkk B k1 = 61
        · skip
          have hkN := tk_in hB (k := k1) (by omega)
          have hpz : ∀ z : PR, bnd (prs (tkk B) f 2 (k1 + 1) o) (fun k2 l2 => .inr (k2, l1 ++ (l2 ++ [-15]))) = z → prs (tkk B) (f + 1) 3 k o = z := fun z h => hpr _ (by rw [e]; exact (if_neg d1).trans ((if_pos d2).trans h))
          have Jf : ∀ (kf : Nat) (S2 : SS), prs (tkk B) f 2 (k1 + 1) o = .inl kf → GaR x S S2 → GcX sh S2 N B x → GcF S2 o (tka N B kf) → G g mX1_negated (7 * (5 - o) + 7) 0 0 76 [(0, gr g 43)] [] (hp g sh S2) n 0 0 Q := by
            intro kf S2 e q1 q2 q3
            have q2c := q2
            obtain ⟨-, -, -, -, u0, u1, -, ux, -⟩ := q2c
            refine S_aload_n (pc := 76) dX1_negated_76 rfl ?_
            refine S_getR (pc := 77) dX1_negated_77 fX1_12 (by assumption) rfl (by assumption) ?_
            refine G_bipush (pc := 80) dX1_negated_80 rfl ?_
            refine S_callV (pc := 82) (ci := 7) (d2 := 1) (mc2 := 0) (ms2 := 0) (As := [_]) dX1_negated_82 kX7_add lkX1_70 (by assumption) rfl rfl rfl (Nat.le_of_ble_eq_true rfl) ⟨by(omega),by(decide)⟩ (by decide) ?_
            refine c_X7_addF q2 q3 (by unfold IsI; omega) (fun S3 p1 p2 p3 => ?_)
            · show G _ _ _ _ _ _ _ _ _ _ _ _ _
              refine G_vret (pc := 85) dX1_negated_85 rfl (by decide) ?_
              exact hF kf _ (hpz _ (by rw [e]; rfl)) (GaR_tr q1 p1) p2 p3
          have Js : ∀ (k2 : Nat) (l2 : List Int) (S2 : SS), prs (tkk B) f 2 (k1 + 1) o = .inr (k2, l2) → GaR x S S2 → GcX sh S2 N B x → GcC S2 x k2 o (l ++ l1 ++ l2) → (k1 + 1 ≤ k2 ∧ (k2 : Int) ≤ N ∧ l2.length + (k1 + 1) ≤ k2) → G g mX1_negated (7 * (5 - o) + 7) 0 0 76 [(0, gr g 43)] [] (hp g sh S2) n 0 0 Q := by
            intro k2 l2 S2 e q1 q2 q3 qk
            have q2c := q2
            obtain ⟨-, -, -, -, u0, u1, -, ux, -⟩ := q2c
            refine S_aload_n (pc := 76) dX1_negated_76 rfl ?_
            refine S_getR (pc := 77) dX1_negated_77 fX1_12 (by assumption) rfl (by assumption) ?_
            refine G_bipush (pc := 80) dX1_negated_80 rfl ?_
            refine S_callV (pc := 82) (ci := 7) (d2 := 1) (mc2 := 0) (ms2 := 0) (As := [_]) dX1_negated_82 kX7_add lkX1_70 (by assumption) rfl rfl rfl (Nat.le_of_ble_eq_true rfl) ⟨by(omega),by(decide)⟩ (by decide) ?_
            refine c_X7_addC q2 q3 (by rw [len1, len1]; omega) (by unfold IsI; omega) (fun S3 p1 p2 p3 => ?_)
            · show G _ _ _ _ _ _ _ _ _ _ _ _ _
              refine G_vret (pc := 85) dX1_negated_85 rfl (by decide) ?_
              exact hS k2 (l1 ++ (l2 ++ [-15])) _ (hpz _ (by rw [e]; rfl)) (GaR_tr q1 p1) p2 (GcC_cast p3 ap3) (by rw [len1, len1]; show _ ∧ _ ∧ l1.length + (l2.length + 1) + k ≤ k2; omega)
          refine S_aload_n (pc := 38) dX1_negated_38 rfl ?_
          refine G_bipush (pc := 39) dX1_negated_39 rfl ?_
          refine S_callV (pc := 41) (ci := 1) (d2 := 3) (mc2 := 0) (ms2 := 0) (As := [_]) dX1_negated_41 kX1_took lkX1_67 (by assumption) rfl rfl rfl (Nat.le_of_ble_eq_true rfl) ⟨by(omega),by(decide)⟩ (by decide) ?_
          refine c_X1_tookC r2 r3 (by omega) (by decide) (fun z => absurd z d1) (fun _ => ?_)
          · show G _ _ _ _ _ _ _ _ _ _ _ _ _
            refine G_if_eq_t (pc := 44) 63 dX1_negated_44 rfl (by decide) (by decide) ?_
            refine S_aload_n (pc := 63) dX1_negated_63 rfl ?_
            refine G_bipush (pc := 64) dX1_negated_64 rfl ?_
            refine S_callV (pc := 66) (ci := 1) (d2 := 3) (mc2 := 0) (ms2 := 0) (As := [_]) dX1_negated_66 kX1_took lkX1_67 (by assumption) rfl rfl rfl (Nat.le_of_ble_eq_true rfl) ⟨by(omega),by(decide)⟩ (by decide) ?_
            refine c_X1_tookC r2 r3 (by omega) (by decide) (fun _ S2 t1 t2 t3 => ?_) (fun z => absurd d2 z)
            · show G _ _ _ _ _ _ _ _ _ _ _ _ _
              refine G_if_eq_f (pc := 69) 85 dX1_negated_69 rfl (by decide) (by decide) ?_
              refine S_aload_n (pc := 72) dX1_negated_72 rfl ?_
              refine S_callV (pc := 73) (ci := 1) (d2 := (7*(5-o)+6)) (mc2 := 0) (ms2 := 0) (As := []) dX1_negated_73 kX1_summed lkX1_79 (by assumption) rfl rfl rfl (Nat.le_of_ble_eq_true rfl) ⟨by(omega),by(decide)⟩ (by decide) ?_
              refine H0 (k1 + 1) o (l ++ l1) S2 n _ (by omega) ho (by omega) t2 t3 (by rw [len1]; omega) (fun kf S3 e q1 q2 q3 => ?_) (fun k2 l2 S3 e q1 q2 q3 qk => ?_)
              · show G _ _ _ _ _ _ _ _ _ _ _ _ _
                first | exact Jf kf S3 e (GaR_tr (GaR_tr r1 t1) q1) q2 q3 | exact Js k2 l2 S3 e (GaR_tr (GaR_tr r1 t1) q1) q2 q3 qk
              · show G _ _ _ _ _ _ _ _ _ _ _ _ _
                first | exact Jf kf S3 e (GaR_tr (GaR_tr r1 t1) q1) q2 q3 | exact Js k2 l2 S3 e (GaR_tr (GaR_tr r1 t1) q1) q2 q3 qk
        · skip
          refine S_aload_n (pc := 38) dX1_negated_38 rfl ?_
          refine G_bipush (pc := 39) dX1_negated_39 rfl ?_
          refine S_callV (pc := 41) (ci := 1) (d2 := 3) (mc2 := 0) (ms2 := 0) (As := [_]) dX1_negated_41 kX1_took lkX1_67 (by assumption) rfl rfl rfl (Nat.le_of_ble_eq_true rfl) ⟨by(omega),by(decide)⟩ (by decide) ?_
          refine c_X1_tookC r2 r3 (by omega) (by decide) (fun z => absurd z d1) (fun _ => ?_)
          · show G _ _ _ _ _ _ _ _ _ _ _ _ _
            refine G_if_eq_t (pc := 44) 63 dX1_negated_44 rfl (by decide) (by decide) ?_
            refine S_aload_n (pc := 63) dX1_negated_63 rfl ?_
            refine G_bipush (pc := 64) dX1_negated_64 rfl ?_
            refine S_callV (pc := 66) (ci := 1) (d2 := 3) (mc2 := 0) (ms2 := 0) (As := [_]) dX1_negated_66 kX1_took lkX1_67 (by assumption) rfl rfl rfl (Nat.le_of_ble_eq_true rfl) ⟨by(omega),by(decide)⟩ (by decide) ?_
            refine c_X1_tookC r2 r3 (by omega) (by decide) (fun z => absurd z d2) (fun _ => ?_)
            · show G _ _ _ _ _ _ _ _ _ _ _ _ _
              refine G_if_eq_t (pc := 69) 85 dX1_negated_69 rfl (by decide) (by decide) ?_
              refine G_vret (pc := 85) dX1_negated_85 rfl (by decide) ?_
              exact hS k1 l1 S1 (hpr _ (by rw [e]; exact (if_neg d1).trans (if_neg d2))) r1 r2 r3 rk
    refine S_aload_n (pc := 0) dX1_negated_0 rfl ?_
    refine G_sipush (pc := 1) dX1_negated_1 rfl ?_
    refine S_callV (pc := 4) (ci := 1) (d2 := 3) (mc2 := 0) (ms2 := 0) (As := [_]) dX1_negated_4 kX1_opened lkX1_76 (by assumption) rfl rfl rfl (Nat.le_of_ble_eq_true rfl) ⟨by(omega),by(decide)⟩ (by decide) ?_
    refine c_X1_openedC hX hC ho (by omega) (by decide) (fun z => absurd z c) (fun _ => ?_)
    · show G _ _ _ _ _ _ _ _ _ _ _ _ _
      refine G_if_eq_t (pc := 7) 34 dX1_negated_7 rfl (by decide) (by decide) ?_
      refine S_aload_n (pc := 34) dX1_negated_34 rfl ?_
      refine S_callV (pc := 35) (ci := 1) (d2 := (7*(5-o)+6)) (mc2 := 0) (ms2 := 0) (As := []) dX1_negated_35 kX1_summed lkX1_79 (by assumption) rfl rfl rfl (Nat.le_of_ble_eq_true rfl) ⟨by(omega),by(decide)⟩ (by decide) ?_
      refine H0 k o l S n _ (by omega) ho hk hX hC hl (fun kf S1 e r1 r2 r3 => ?_) (fun k1 l1 S1 e r1 r2 r3 rk => ?_)
      · show G _ _ _ _ _ _ _ _ _ _ _ _ _
        first | exact Kf kf S1 e r1 r2 r3 | exact Ks k1 l1 S1 e r1 r2 r3 rk
      · show G _ _ _ _ _ _ _ _ _ _ _ _ _
        first | exact Kf kf S1 e r1 r2 r3 | exact Ks k1 l1 S1 e r1 r2 r3 rk
set_option maxRecDepth 100000 in
set_option maxHeartbeats 4000000 in
theorem sg_one {g : GC} {sh : SH} {N : Int} {B : Int → Int} {x f : Nat} (H0 : GaC g sh N B x mX1_one 0 1 4 f) (HE : GaC g sh N B x mX1_either 5 6 9 f) : GaC g sh N B x mX1_one 0 1 4 (f + 1) := by
  intro k o l S n Q hn ho hk hX hC hl hF hS
  have hXc := hX
  obtain ⟨hTa, hTk, hB, h43, -, -, h44, hTx⟩ := hXc
  have hN := hB.1
  refine GCall.of (by decide) (Nat.le_of_ble_eq_true rfl) (ls := [(0, _)]) rfl ?_
  by_cases c : tkk B k = 45 ∧ o < 5
  · have hkN := tk_in hB (k := k) (by omega)
    have hpr : ∀ z : PR, bnd (prs (tkk B) f 0 (k + 1) (o + 1)) (fun k1 l1 => .inr (k1, l1 ++ [-19])) = z → prs (tkk B) (f + 1) 0 k o = z := fun z h => (if_pos c).trans h
    have Kf : ∀ (kf : Nat) (S2 : SS), prs (tkk B) f 0 (k + 1) (o + 1) = .inl kf → GaR x S S2 → GcX sh S2 N B x → GcF S2 (o + 1) (tka N B kf) → G g mX1_one (7 * (5 - o) + 4) 0 0 13 [(0, gr g 43)] [] (hp g sh S2) n 0 0 Q := by
      intro kf S2 e q1 q2 q3
      have q2c := q2
      obtain ⟨-, -, -, -, u0, u1, -, ux, -⟩ := q2c
      refine S_aload_n (pc := 13) dX1_one_13 rfl ?_
      refine S_getR (pc := 14) dX1_one_14 fX1_12 (by assumption) rfl (by assumption) ?_
      refine G_bipush (pc := 17) dX1_one_17 rfl ?_
      refine S_callV (pc := 19) (ci := 7) (d2 := 1) (mc2 := 0) (ms2 := 0) (As := [_]) dX1_one_19 kX7_add lkX1_70 (by assumption) rfl rfl rfl (Nat.le_of_ble_eq_true rfl) ⟨by(omega),by(decide)⟩ (by decide) ?_
      refine c_X7_addF q2 q3 (by unfold IsI; omega) (fun S3 p1 p2 p3 => ?_)
      · show G _ _ _ _ _ _ _ _ _ _ _ _ _
        refine S_aload_n (pc := 22) dX1_one_22 rfl ?_
        refine G_dup (pc := 23) dX1_one_23 rfl ?_
        refine S_getI (pc := 24) dX1_one_24 fX1_29 (by assumption) rfl ?_
        refine G_iconst (pc := 27) dX1_one_27 ?_
        refine G_isub (pc := 28) dX1_one_28 ?_
        refine S_putI (pc := 29) dX1_one_29 fX1_29 (by assumption) rfl ⟨rfl, rfl⟩ ?_
        refine G_goto (pc := 32) 71 dX1_one_32 rfl ?_
        refine G_vret (pc := 71) dX1_one_71 rfl (by decide) ?_
        exact hF kf _ (hpr _ (by rw [e]; rfl)) (GaR_tr (GaR_tr q1 p1) (GaR_43 (by decide))) (GcX_43 (by decide) p2) (GcF_o p3 (by rw [p3.1]; omega))
    have Ks : ∀ (k1 : Nat) (l1 : List Int) (S2 : SS), prs (tkk B) f 0 (k + 1) (o + 1) = .inr (k1, l1) → GaR x S S2 → GcX sh S2 N B x → GcC S2 x k1 (o + 1) (l ++ l1) → (k + 1 ≤ k1 ∧ (k1 : Int) ≤ N ∧ l1.length + (k + 1) ≤ k1) → G g mX1_one (7 * (5 - o) + 4) 0 0 13 [(0, gr g 43)] [] (hp g sh S2) n 0 0 Q := by
      intro k1 l1 S2 e q1 q2 q3 qk
      have q2c := q2
      obtain ⟨-, -, -, -, u0, u1, -, ux, -⟩ := q2c
      refine S_aload_n (pc := 13) dX1_one_13 rfl ?_
      refine S_getR (pc := 14) dX1_one_14 fX1_12 (by assumption) rfl (by assumption) ?_
      refine G_bipush (pc := 17) dX1_one_17 rfl ?_
      refine S_callV (pc := 19) (ci := 7) (d2 := 1) (mc2 := 0) (ms2 := 0) (As := [_]) dX1_one_19 kX7_add lkX1_70 (by assumption) rfl rfl rfl (Nat.le_of_ble_eq_true rfl) ⟨by(omega),by(decide)⟩ (by decide) ?_
      refine c_X7_addC q2 q3 (by rw [len1]; omega) (by unfold IsI; omega) (fun S3 p1 p2 p3 => ?_)
      · show G _ _ _ _ _ _ _ _ _ _ _ _ _
        refine S_aload_n (pc := 22) dX1_one_22 rfl ?_
        refine G_dup (pc := 23) dX1_one_23 rfl ?_
        refine S_getI (pc := 24) dX1_one_24 fX1_29 (by assumption) rfl ?_
        refine G_iconst (pc := 27) dX1_one_27 ?_
        refine G_isub (pc := 28) dX1_one_28 ?_
        refine S_putI (pc := 29) dX1_one_29 fX1_29 (by assumption) rfl ⟨rfl, rfl⟩ ?_
        refine G_goto (pc := 32) 71 dX1_one_32 rfl ?_
        refine G_vret (pc := 71) dX1_one_71 rfl (by decide) ?_
        exact hS k1 (l1 ++ [-19]) _ (hpr _ (by rw [e]; rfl)) (GaR_tr (GaR_tr q1 p1) (GaR_43 (by decide))) (GcX_43 (by decide) p2) (GcC_o h44 (GcC_cast p3 ap2) (by rw [p3.2.1]; omega)) (by rw [len1]; show _ ∧ _ ∧ l1.length + 1 + k ≤ k1; omega)
    refine S_aload_n (pc := 0) dX1_one_0 rfl ?_
    refine G_bipush (pc := 1) dX1_one_1 rfl ?_
    refine S_callV (pc := 3) (ci := 1) (d2 := 3) (mc2 := 0) (ms2 := 0) (As := [_]) dX1_one_3 kX1_opened lkX1_76 (by assumption) rfl rfl rfl (Nat.le_of_ble_eq_true rfl) ⟨by(omega),by(decide)⟩ (by decide) ?_
    refine c_X1_openedC hX hC ho (by omega) (by decide) (fun _ S1 r1 r2 r3 => ?_) (fun z => absurd c z)
    · show G _ _ _ _ _ _ _ _ _ _ _ _ _
      refine G_if_eq_f (pc := 6) 35 dX1_one_6 rfl (by decide) (by decide) ?_
      refine S_aload_n (pc := 9) dX1_one_9 rfl ?_
      refine S_callV (pc := 10) (ci := 1) (d2 := (7*(5-(o+1))+4)) (mc2 := 0) (ms2 := 0) (As := []) dX1_one_10 kX1_one lkX1_85 (by assumption) rfl rfl rfl (Nat.le_of_ble_eq_true rfl) ⟨by(omega),by(decide)⟩ (by decide) ?_
      refine H0 (k + 1) (o + 1) l S1 n _ (by omega) (by omega) (by omega) r2 r3 (by omega) (fun kf S2 e q1 q2 q3 => ?_) (fun k1 l1 S2 e q1 q2 q3 qk => ?_)
      · show G _ _ _ _ _ _ _ _ _ _ _ _ _
        first | exact Kf kf S2 e (GaR_tr r1 q1) q2 q3 | exact Ks k1 l1 S2 e (GaR_tr r1 q1) q2 q3 qk
      · show G _ _ _ _ _ _ _ _ _ _ _ _ _
        first | exact Kf kf S2 e (GaR_tr r1 q1) q2 q3 | exact Ks k1 l1 S2 e (GaR_tr r1 q1) q2 q3 qk
  · by_cases d : tkk B k = 40 ∧ o < 5
    · have hkN := tk_in hB (k := k) (by omega)
      have hpr : ∀ z : PR, bnd (prs (tkk B) f 5 (k + 1) (o + 1)) (fun k1 l1 => if tkk B k1 = 41 then .inr (k1 + 1, l1) else .inl k1) = z → prs (tkk B) (f + 1) 0 k o = z := fun z h => (if_neg c).trans ((if_pos d).trans h)
      have Kf : ∀ (kf : Nat) (S2 : SS), prs (tkk B) f 5 (k + 1) (o + 1) = .inl kf → GaR x S S2 → GcX sh S2 N B x → GcF S2 (o + 1) (tka N B kf) → G g mX1_one (7 * (5 - o) + 4) 0 0 48 [(0, gr g 43)] [] (hp g sh S2) n 0 0 Q := by
        intro kf S2 e q1 q2 q3
        refine S_aload_n (pc := 48) dX1_one_48 rfl ?_
        refine G_bipush (pc := 49) dX1_one_49 rfl ?_
        refine S_callV (pc := 51) (ci := 1) (d2 := 3) (mc2 := 0) (ms2 := 0) (As := [_]) dX1_one_51 kX1_need lkX1_41 (by assumption) rfl rfl rfl (Nat.le_of_ble_eq_true rfl) ⟨by(omega),by(decide)⟩ (by decide) ?_
        refine c_X1_needF q2 q3 ?_
        show G _ _ _ _ _ _ _ _ _ _ _ _ _
        refine S_aload_n (pc := 54) dX1_one_54 rfl ?_
        refine G_dup (pc := 55) dX1_one_55 rfl ?_
        refine S_getI (pc := 56) dX1_one_56 fX1_29 (by assumption) rfl ?_
        refine G_iconst (pc := 59) dX1_one_59 ?_
        refine G_isub (pc := 60) dX1_one_60 ?_
        refine S_putI (pc := 61) dX1_one_61 fX1_29 (by assumption) rfl ⟨rfl, rfl⟩ ?_
        refine G_goto (pc := 64) 71 dX1_one_64 rfl ?_
        refine G_vret (pc := 71) dX1_one_71 rfl (by decide) ?_
        exact hF kf _ (hpr _ (by rw [e]; rfl)) (GaR_tr q1 (GaR_43 (by decide))) (GcX_43 (by decide) q2) (GcF_o q3 (by rw [q3.1]; omega))
      have Ks : ∀ (k1 : Nat) (l1 : List Int) (S2 : SS), prs (tkk B) f 5 (k + 1) (o + 1) = .inr (k1, l1) → GaR x S S2 → GcX sh S2 N B x → GcC S2 x k1 (o + 1) (l ++ l1) → (k + 1 ≤ k1 ∧ (k1 : Int) ≤ N ∧ l1.length + (k + 1) ≤ k1) → G g mX1_one (7 * (5 - o) + 4) 0 0 48 [(0, gr g 43)] [] (hp g sh S2) n 0 0 Q := by
        intro k1 l1 S2 e q1 q2 q3 qk
        refine S_aload_n (pc := 48) dX1_one_48 rfl ?_
        refine G_bipush (pc := 49) dX1_one_49 rfl ?_
        refine S_callV (pc := 51) (ci := 1) (d2 := 3) (mc2 := 0) (ms2 := 0) (As := [_]) dX1_one_51 kX1_need lkX1_41 (by assumption) rfl rfl rfl (Nat.le_of_ble_eq_true rfl) ⟨by(omega),by(decide)⟩ (by decide) ?_
        refine c_X1_needC q2 q3 (by omega) (by decide) (fun w S3 p1 p2 p3 => ?_) (fun w S3 p1 p2 p3 => ?_)
        · show G _ _ _ _ _ _ _ _ _ _ _ _ _
          refine S_aload_n (pc := 54) dX1_one_54 rfl ?_
          refine G_dup (pc := 55) dX1_one_55 rfl ?_
          refine S_getI (pc := 56) dX1_one_56 fX1_29 (by assumption) rfl ?_
          refine G_iconst (pc := 59) dX1_one_59 ?_
          refine G_isub (pc := 60) dX1_one_60 ?_
          refine S_putI (pc := 61) dX1_one_61 fX1_29 (by assumption) rfl ⟨rfl, rfl⟩ ?_
          refine G_goto (pc := 64) 71 dX1_one_64 rfl ?_
          refine G_vret (pc := 71) dX1_one_71 rfl (by decide) ?_
          first
            | exact hF k1 _ (hpr _ (by rw [e]; exact if_neg w)) (GaR_tr (GaR_tr q1 p1) (GaR_43 (by decide))) (GcX_43 (by decide) p2) (GcF_o p3 (by rw [p3.1]; omega))
            | (have hkN1 := tk_in hB (k := k1) (by omega)
               exact hS (k1 + 1) l1 _ (hpr _ (by rw [e]; exact if_pos w)) (GaR_tr (GaR_tr q1 p1) (GaR_43 (by decide))) (GcX_43 (by decide) p2) (GcC_o h44 p3 (by rw [p3.2.1]; omega)) (by omega))
        · show G _ _ _ _ _ _ _ _ _ _ _ _ _
          refine S_aload_n (pc := 54) dX1_one_54 rfl ?_
          refine G_dup (pc := 55) dX1_one_55 rfl ?_
          refine S_getI (pc := 56) dX1_one_56 fX1_29 (by assumption) rfl ?_
          refine G_iconst (pc := 59) dX1_one_59 ?_
          refine G_isub (pc := 60) dX1_one_60 ?_
          refine S_putI (pc := 61) dX1_one_61 fX1_29 (by assumption) rfl ⟨rfl, rfl⟩ ?_
          refine G_goto (pc := 64) 71 dX1_one_64 rfl ?_
          refine G_vret (pc := 71) dX1_one_71 rfl (by decide) ?_
          first
            | exact hF k1 _ (hpr _ (by rw [e]; exact if_neg w)) (GaR_tr (GaR_tr q1 p1) (GaR_43 (by decide))) (GcX_43 (by decide) p2) (GcF_o p3 (by rw [p3.1]; omega))
            | (have hkN1 := tk_in hB (k := k1) (by omega)
               exact hS (k1 + 1) l1 _ (hpr _ (by rw [e]; exact if_pos w)) (GaR_tr (GaR_tr q1 p1) (GaR_43 (by decide))) (GcX_43 (by decide) p2) (GcC_o h44 p3 (by rw [p3.2.1]; omega)) (by omega))
      refine S_aload_n (pc := 0) dX1_one_0 rfl ?_
      refine G_bipush (pc := 1) dX1_one_1 rfl ?_
      refine S_callV (pc := 3) (ci := 1) (d2 := 3) (mc2 := 0) (ms2 := 0) (As := [_]) dX1_one_3 kX1_opened lkX1_76 (by assumption) rfl rfl rfl (Nat.le_of_ble_eq_true rfl) ⟨by(omega),by(decide)⟩ (by decide) ?_
      refine c_X1_openedC hX hC ho (by omega) (by decide) (fun z => absurd z c) (fun _ => ?_)
      · show G _ _ _ _ _ _ _ _ _ _ _ _ _
        refine G_if_eq_t (pc := 6) 35 dX1_one_6 rfl (by decide) (by decide) ?_
        refine S_aload_n (pc := 35) dX1_one_35 rfl ?_
        refine G_bipush (pc := 36) dX1_one_36 rfl ?_
        refine S_callV (pc := 38) (ci := 1) (d2 := 3) (mc2 := 0) (ms2 := 0) (As := [_]) dX1_one_38 kX1_opened lkX1_76 (by assumption) rfl rfl rfl (Nat.le_of_ble_eq_true rfl) ⟨by(omega),by(decide)⟩ (by decide) ?_
        refine c_X1_openedC hX hC ho (by omega) (by decide) (fun _ S1 r1 r2 r3 => ?_) (fun z => absurd d z)
        · show G _ _ _ _ _ _ _ _ _ _ _ _ _
          refine G_if_eq_f (pc := 41) 67 dX1_one_41 rfl (by decide) (by decide) ?_
          refine S_aload_n (pc := 44) dX1_one_44 rfl ?_
          refine S_callV (pc := 45) (ci := 1) (d2 := (7*(5-(o+1))+9)) (mc2 := 0) (ms2 := 0) (As := []) dX1_one_45 kX1_either lkX1_44 (by assumption) rfl rfl rfl (Nat.le_of_ble_eq_true rfl) ⟨by(omega),by(decide)⟩ (by decide) ?_
          refine HE (k + 1) (o + 1) l S1 n _ (by omega) (by omega) (by omega) r2 r3 (by omega) (fun kf S2 e q1 q2 q3 => ?_) (fun k1 l1 S2 e q1 q2 q3 qk => ?_)
          · show G _ _ _ _ _ _ _ _ _ _ _ _ _
            first | exact Kf kf S2 e (GaR_tr r1 q1) q2 q3 | exact Ks k1 l1 S2 e (GaR_tr r1 q1) q2 q3 qk
          · show G _ _ _ _ _ _ _ _ _ _ _ _ _
            first | exact Kf kf S2 e (GaR_tr r1 q1) q2 q3 | exact Ks k1 l1 S2 e (GaR_tr r1 q1) q2 q3 qk
    · have hpr : ∀ z : PR, (if 1000 ≤ tkk B k then .inr (k + 1, [tkk B k - 1000]) else if 270 ≤ tkk B k ∧ tkk B k ≤ 275 then .inr (k + 1, [269 - tkk B k]) else .inl k) = z → prs (tkk B) (f + 1) 0 k o = z := fun z h => (if_neg c).trans ((if_neg d).trans h)
      have K1 : 1000 ≤ tkk B k → ∀ S' : SS, GaR x S S' → GcX sh S' N B x → GcC S' x (k + 1) o (l ++ [tkk B k - 1000]) → Q none (hp g sh S') n := fun z S' r1 r2 r3 => by
        have hkN := tk_in hB (k := k) (by omega)
        exact hS (k + 1) _ S' (hpr _ (if_pos z)) r1 r2 r3 (by rw [List.length_cons, List.length_nil]; omega)
      have K2 : ¬ 1000 ≤ tkk B k → 270 ≤ tkk B k ∧ tkk B k ≤ 275 → ∀ S' : SS, GaR x S S' → GcX sh S' N B x → GcC S' x (k + 1) o (l ++ [269 - tkk B k]) → Q none (hp g sh S') n := fun z z2 S' r1 r2 r3 => by
        have hkN := tk_in hB (k := k) (by omega)
        exact hS (k + 1) _ S' (hpr _ ((if_neg z).trans (if_pos z2))) r1 r2 r3 (by rw [List.length_cons, List.length_nil]; omega)
      refine S_aload_n (pc := 0) dX1_one_0 rfl ?_
      refine G_bipush (pc := 1) dX1_one_1 rfl ?_
      refine S_callV (pc := 3) (ci := 1) (d2 := 3) (mc2 := 0) (ms2 := 0) (As := [_]) dX1_one_3 kX1_opened lkX1_76 (by assumption) rfl rfl rfl (Nat.le_of_ble_eq_true rfl) ⟨by(omega),by(decide)⟩ (by decide) ?_
      refine c_X1_openedC hX hC ho (by omega) (by decide) (fun z => absurd z c) (fun _ => ?_)
      · show G _ _ _ _ _ _ _ _ _ _ _ _ _
        refine G_if_eq_t (pc := 6) 35 dX1_one_6 rfl (by decide) (by decide) ?_
        refine S_aload_n (pc := 35) dX1_one_35 rfl ?_
        refine G_bipush (pc := 36) dX1_one_36 rfl ?_
        refine S_callV (pc := 38) (ci := 1) (d2 := 3) (mc2 := 0) (ms2 := 0) (As := [_]) dX1_one_38 kX1_opened lkX1_76 (by assumption) rfl rfl rfl (Nat.le_of_ble_eq_true rfl) ⟨by(omega),by(decide)⟩ (by decide) ?_
        refine c_X1_openedC hX hC ho (by omega) (by decide) (fun z => absurd z d) (fun _ => ?_)
        · show G _ _ _ _ _ _ _ _ _ _ _ _ _
          refine G_if_eq_t (pc := 41) 67 dX1_one_41 rfl (by decide) (by decide) ?_
          refine S_aload_n (pc := 67) dX1_one_67 rfl ?_
          refine S_callV (pc := 68) (ci := 1) (d2 := 3) (mc2 := 0) (ms2 := 0) (As := []) dX1_one_68 kX1_numberOrName lkX1_88 (by assumption) rfl rfl rfl (Nat.le_of_ble_eq_true rfl) ⟨by(omega),by(decide)⟩ (by decide) ?_
          refine c_X1_numberOrNameC hX hC (by omega) hl (fun w S1 r1 r2 r3 => ?_) (fun w w2 S1 r1 r2 r3 => ?_) (fun w w2 S1 r1 r2 r3 => ?_)
          · show G _ _ _ _ _ _ _ _ _ _ _ _ _
            refine G_vret (pc := 71) dX1_one_71 rfl (by decide) ?_
            first | exact K1 w S1 r1 r2 r3 | exact K2 w w2 S1 r1 r2 r3 | exact hF k S1 (hpr _ ((if_neg w).trans (if_neg w2))) r1 r2 r3
          · show G _ _ _ _ _ _ _ _ _ _ _ _ _
            refine G_vret (pc := 71) dX1_one_71 rfl (by decide) ?_
            first | exact K1 w S1 r1 r2 r3 | exact K2 w w2 S1 r1 r2 r3 | exact hF k S1 (hpr _ ((if_neg w).trans (if_neg w2))) r1 r2 r3
          · show G _ _ _ _ _ _ _ _ _ _ _ _ _
            refine G_vret (pc := 71) dX1_one_71 rfl (by decide) ?_
            first | exact K1 w S1 r1 r2 r3 | exact K2 w w2 S1 r1 r2 r3 | exact hF k S1 (hpr _ ((if_neg w).trans (if_neg w2))) r1 r2 r3
theorem ga_all {g : GC} {sh : SH} {N : Int} {B : Int → Int} {x : Nat} : ∀ f : Nat, GaC g sh N B x mX1_one 0 1 4 f ∧ GaC g sh N B x mX1_term 1 2 5 f ∧ GaC g sh N B x mX1_summed 2 3 6 f ∧ GaC g sh N B x mX1_negated 3 4 7 f ∧ GaC g sh N B x mX1_both 4 5 8 f ∧ GaC g sh N B x mX1_either 5 6 9 f ∧ GaL g sh N B x mX1_term 6 5 f ∧ GaL g sh N B x mX1_summed 7 6 f ∧ GaL g sh N B x mX1_both 8 8 f ∧ GaL g sh N B x mX1_either 9 9 f
  | 0 => ⟨fun k o l S n Q h => absurd h (by omega), fun k o l S n Q h => absurd h (by omega), fun k o l S n Q h => absurd h (by omega), fun k o l S n Q h => absurd h (by omega), fun k o l S n Q h => absurd h (by omega), fun k o l S n Q h => absurd h (by omega), fun k o l S n Q v h => absurd h (by omega), fun k o l S n Q v h => absurd h (by omega), fun k o l S n Q v h => absurd h (by omega), fun k o l S n Q v h => absurd h (by omega)⟩
  | f + 1 => by
    obtain ⟨h0, h1, h2, h3, h4, h5, h6, h7, h8, h9⟩ := ga_all (g := g) (sh := sh) (N := N) (B := B) (x := x) f
    exact ⟨sg_one h0 h5, sg_term h0 h6, sg_summed h1 h7, sg_negated h2 h3, sg_both h3 h8, sg_either h4 h9, lg_term h0 h6, lg_summed h1 h7, lg_both h3 h8, lg_either h4 h9⟩
