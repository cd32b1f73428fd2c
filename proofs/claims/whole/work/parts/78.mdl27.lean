/-! the Model: ONE .. E by contract, all at once by how much is left to read -/
def GmC (g : GC) (sh : SH) (N : Int) (B env : Int → Int) (y : GM) (nt r c f : Nat) : Prop :=
  ∀ (k o : Nat) (S : SS) (n : Nat) (Q : Option Value → GA → Nat → Prop), 12 * (161 - k) + r ≤ f → o ≤ 5 → (k : Int) ≤ N → MtY sh S N B env → MtC S N B k o →
    (∀ (kf : Nat) (S' : SS) (v : Int), prs (tkk B) f nt k o = .inl kf → GrS S S' → MtF S' (tka N B kf) → (-2147483648 ≤ v ∧ v ≤ 2147483647) → Q (some (.int (iI v))) (hp g sh S') n) →
    (∀ (k1 : Nat) (l : List Int) (v : Int) (S' : SS), prs (tkk B) f nt k o = .inr (k1, l) → GrS S S' → MtC S' N B k1 o → (k ≤ k1 ∧ (k1 : Int) ≤ N) → Val env l v → Q (some (.int (iI v))) (hp g sh S') n) →
    GCall g y (7 * (5 - o) + c) 0 0 [gr g 96] (hp g sh S) n Q
def GmL (g : GC) (sh : SH) (N : Int) (B env : Int → Int) (y : GM) (nt c f : Nat) : Prop :=
  ∀ (k o : Nat) (S : SS) (n : Nat) (Q : Option Value → GA → Nat → Prop) (v0 : Int), 12 * (161 - k) + 1 ≤ f → o ≤ 5 → (k : Int) ≤ N → MtY sh S N B env → MtC S N B k o → (-2147483648 ≤ v0 ∧ v0 ≤ 2147483647) →
    (∀ (kf : Nat) (S' : SS) (v : Int), prs (tkk B) f nt k o = .inl kf → GrS S S' → MtF S' (tka N B kf) → (-2147483648 ≤ v ∧ v ≤ 2147483647) → Q (some (.int (iI v))) (hp g sh S') n) →
    (∀ (k1 : Nat) (l : List Int) (v : Int) (S' : SS), prs (tkk B) f nt k o = .inr (k1, l) → GrS S S' → MtC S' N B k1 o → (k ≤ k1 ∧ (k1 : Int) ≤ N) → VaL env l v0 v → Q (some (.int (iI v))) (hp g sh S') n) →
    G g y (7 * (5 - o) + c) 0 0 5 [(1, .int (iI v0)), (0, gr g 96)] [] (hp g sh S) n 0 0 Q
theorem Val_cast {env : Int → Int} {l : List Int} {v v' : Int} (h : Val env l v) (e : v = v') : Val env l v' := e ▸ h
theorem wco_or (w : Int) : wco w = 263 ↔ w = 423 := by
  unfold wco; constructor
  · intro z; (repeat' split at z) <;> omega
  · intro z; rw [z]; rfl
theorem wco_and (w : Int) : wco w = 264 ↔ w = 1111 := by
  unfold wco; constructor
  · intro z; (repeat' split at z) <;> omega
  · intro z; rw [z]; rfl
theorem wco_not (w : Int) : wco w = 265 ↔ w = 10631 := by
  unfold wco; constructor
  · intro z; (repeat' split at z) <;> omega
  · intro z; rw [z]; rfl
theorem wco_plain (w : Int) : wco w = 260 ↔ w = 8740238 := by
  unfold wco; constructor
  · intro z; (repeat' split at z) <;> omega
  · intro z; rw [z]; rfl
theorem wco_split (w : Int) : wco w = 261 ↔ w = 10421318 := by
  unfold wco; constructor
  · intro z; (repeat' split at z) <;> omega
  · intro z; rw [z]; rfl
theorem wco_turn (w : Int) : wco w = 262 ↔ w = 409469 := by
  unfold wco; constructor
  · intro z; (repeat' split at z) <;> omega
  · intro z; rw [z]; rfl
theorem tk_in {N : Int} {B : Int → Int} {k : Nat} (hB : IsB N B) (h : tkk B k ≠ 256) : (k : Int) + 1 ≤ N ∧ k ≤ 159 := by
  have h1 := hB.1
  by_cases c : N ≤ k
  · exact absurd (tkk_big hB c) h
  · omega
set_option maxRecDepth 100000 in
set_option maxHeartbeats 4000000 in
theorem st_term {g : GC} {sh : SH} {N : Int} {B env : Int → Int} {f : Nat} (H0 : GmC g sh N B env mX10_one 0 1 4 f) (HL : GmL g sh N B env mX10_term 6 5 f) : GmC g sh N B env mX10_term 1 2 5 (f + 1) := by
  intro k o S n Q hn ho hk hY hC hF hS
  have h96 := hY.1.1
  refine GCall.of (by decide) (Nat.le_of_ble_eq_true rfl) (ls := [(0, _)]) rfl ?_
  have Kf : ∀ (kf : Nat) (S1 : SS) (v : Int), prs (tkk B) f 0 k o = .inl kf → GrS S S1 → MtF S1 (tka N B kf) → (-2147483648 ≤ v ∧ v ≤ 2147483647) → G g mX10_term (7 * (5 - o) + 5) 0 0 5 [(1, .int (iI v)), (0, gr g 96)] [] (hp g sh S1) n 0 0 Q := by
    intro kf S1 v e r1 r2 rv
    refine S_aload_n (pc := 5) dX10_term_5 rfl ?_
    refine G_bipush (pc := 6) dX10_term_6 rfl ?_
    refine S_callV (pc := 8) (ci := 10) (d2 := 1) (mc2 := 0) (ms2 := 0) (As := [_]) dX10_term_8 kX10_isSign lkX10_220 (by assumption) rfl rfl rfl (Nat.le_of_ble_eq_true rfl) ⟨by(omega),by(decide)⟩ (by decide) ?_
    refine c_X10_isSignF h96 r2 ?_
    show G _ _ _ _ _ _ _ _ _ _ _ _ _
    refine G_if_eq_t (pc := 11) 28 dX10_term_11 rfl (by omega) (by decide) ?_
    refine G_iload_n (pc := 28) dX10_term_28 rfl ?_
    refine G_iret (pc := 29) dX10_term_29 rfl (by decide) ?_
    exact hF kf S1 v (by show bnd (prs (tkk B) f 0 k o) _ = _; rw [e]; rfl) r1 r2 rv
  have Ks : ∀ (k1 : Nat) (l1 : List Int) (v1 : Int) (S1 : SS), prs (tkk B) f 0 k o = .inr (k1, l1) → GrS S S1 → MtC S1 N B k1 o → (k ≤ k1 ∧ (k1 : Int) ≤ N) → Val env l1 v1 → G g mX10_term (7 * (5 - o) + 5) 0 0 5 [(1, .int (iI v1)), (0, gr g 96)] [] (hp g sh S1) n 0 0 Q := by
    intro k1 l1 v1 S1 e r1 r2 rk rv
    exact HL k1 o S1 n Q v1 (by omega) ho rk.2 (MtY_gr r1 hY) r2 rv.2 (fun kf S2 v e2 q1 q2 q3 => hF kf S2 v (by show bnd (prs (tkk B) f 0 k o) _ = _; rw [e]; show bnd (prs (tkk B) f 6 k1 o) _ = _; rw [e2]; rfl) (GrS_tr r1 q1) q2 q3) (fun k2 l2 v2 S2 e2 q1 q2 qk qv => hS k2 (l1 ++ l2) v2 S2 (by show bnd (prs (tkk B) f 0 k o) _ = _; rw [e]; show bnd (prs (tkk B) f 6 k1 o) _ = _; rw [e2]; rfl) (GrS_tr r1 q1) q2 (by omega) (Val_app rv qv))
  refine S_aload_n (pc := 0) dX10_term_0 rfl ?_
  refine S_callV (pc := 1) (ci := 10) (d2 := (7*(5-o)+4)) (mc2 := 0) (ms2 := 0) (As := []) dX10_term_1 kX10_one lkX10_227 (by assumption) rfl rfl rfl (Nat.le_of_ble_eq_true rfl) ⟨by(omega),by(decide)⟩ (by decide) ?_
  refine H0 k o S n _ (by omega) ho hk hY hC (fun kf S1 v e r1 r2 rv => ?_) (fun k1 l1 v1 S1 e r1 r2 rk rv => ?_)
  · show G _ _ _ _ _ _ _ _ _ _ _ _ _
    refine G_istore_n (pc := 4) (ls' := [(1, _), (0, _)]) dX10_term_4 (by decide) rfl ?_
    first | exact Kf kf S1 v e r1 r2 rv | exact Ks k1 l1 v1 S1 e r1 r2 rk rv
  · show G _ _ _ _ _ _ _ _ _ _ _ _ _
    refine G_istore_n (pc := 4) (ls' := [(1, _), (0, _)]) dX10_term_4 (by decide) rfl ?_
    first | exact Kf kf S1 v e r1 r2 rv | exact Ks k1 l1 v1 S1 e r1 r2 rk rv
set_option maxRecDepth 100000 in
set_option maxHeartbeats 4000000 in
theorem st_added {g : GC} {sh : SH} {N : Int} {B env : Int → Int} {f : Nat} (H0 : GmC g sh N B env mX10_term 1 2 5 f) (HL : GmL g sh N B env mX10_added 7 6 f) : GmC g sh N B env mX10_added 2 3 6 (f + 1) := by
  intro k o S n Q hn ho hk hY hC hF hS
  have h96 := hY.1.1
  refine GCall.of (by decide) (Nat.le_of_ble_eq_true rfl) (ls := [(0, _)]) rfl ?_
  have Kf : ∀ (kf : Nat) (S1 : SS) (v : Int), prs (tkk B) f 1 k o = .inl kf → GrS S S1 → MtF S1 (tka N B kf) → (-2147483648 ≤ v ∧ v ≤ 2147483647) → G g mX10_added (7 * (5 - o) + 6) 0 0 5 [(1, .int (iI v)), (0, gr g 96)] [] (hp g sh S1) n 0 0 Q := by
    intro kf S1 v e r1 r2 rv
    refine S_aload_n (pc := 5) dX10_added_5 rfl ?_
    refine G_bipush (pc := 6) dX10_added_6 rfl ?_
    refine S_callV (pc := 8) (ci := 10) (d2 := 1) (mc2 := 0) (ms2 := 0) (As := [_]) dX10_added_8 kX10_isSign lkX10_220 (by assumption) rfl rfl rfl (Nat.le_of_ble_eq_true rfl) ⟨by(omega),by(decide)⟩ (by decide) ?_
    refine c_X10_isSignF h96 r2 ?_
    show G _ _ _ _ _ _ _ _ _ _ _ _ _
    refine G_if_ne_f (pc := 11) 23 dX10_added_11 rfl (by omega) (by decide) ?_
    refine S_aload_n (pc := 14) dX10_added_14 rfl ?_
    refine G_bipush (pc := 15) dX10_added_15 rfl ?_
    refine S_callV (pc := 17) (ci := 10) (d2 := 1) (mc2 := 0) (ms2 := 0) (As := [_]) dX10_added_17 kX10_isSign lkX10_220 (by assumption) rfl rfl rfl (Nat.le_of_ble_eq_true rfl) ⟨by(omega),by(decide)⟩ (by decide) ?_
    refine c_X10_isSignF h96 r2 ?_
    show G _ _ _ _ _ _ _ _ _ _ _ _ _
    refine G_if_eq_t (pc := 20) 64 dX10_added_20 rfl (by omega) (by decide) ?_
    refine G_iload_n (pc := 64) dX10_added_64 rfl ?_
    refine G_iret (pc := 65) dX10_added_65 rfl (by decide) ?_
    exact hF kf S1 v (by show bnd (prs (tkk B) f 1 k o) _ = _; rw [e]; rfl) r1 r2 rv
  have Ks : ∀ (k1 : Nat) (l1 : List Int) (v1 : Int) (S1 : SS), prs (tkk B) f 1 k o = .inr (k1, l1) → GrS S S1 → MtC S1 N B k1 o → (k ≤ k1 ∧ (k1 : Int) ≤ N) → Val env l1 v1 → G g mX10_added (7 * (5 - o) + 6) 0 0 5 [(1, .int (iI v1)), (0, gr g 96)] [] (hp g sh S1) n 0 0 Q := by
    intro k1 l1 v1 S1 e r1 r2 rk rv
    exact HL k1 o S1 n Q v1 (by omega) ho rk.2 (MtY_gr r1 hY) r2 rv.2 (fun kf S2 v e2 q1 q2 q3 => hF kf S2 v (by show bnd (prs (tkk B) f 1 k o) _ = _; rw [e]; show bnd (prs (tkk B) f 7 k1 o) _ = _; rw [e2]; rfl) (GrS_tr r1 q1) q2 q3) (fun k2 l2 v2 S2 e2 q1 q2 qk qv => hS k2 (l1 ++ l2) v2 S2 (by show bnd (prs (tkk B) f 1 k o) _ = _; rw [e]; show bnd (prs (tkk B) f 7 k1 o) _ = _; rw [e2]; rfl) (GrS_tr r1 q1) q2 (by omega) (Val_app rv qv))
  refine S_aload_n (pc := 0) dX10_added_0 rfl ?_
  refine S_callV (pc := 1) (ci := 10) (d2 := (7*(5-o)+5)) (mc2 := 0) (ms2 := 0) (As := []) dX10_added_1 kX10_term lkX10_237 (by assumption) rfl rfl rfl (Nat.le_of_ble_eq_true rfl) ⟨by(omega),by(decide)⟩ (by decide) ?_
  refine H0 k o S n _ (by omega) ho hk hY hC (fun kf S1 v e r1 r2 rv => ?_) (fun k1 l1 v1 S1 e r1 r2 rk rv => ?_)
  · show G _ _ _ _ _ _ _ _ _ _ _ _ _
    refine G_istore_n (pc := 4) (ls' := [(1, _), (0, _)]) dX10_added_4 (by decide) rfl ?_
    first | exact Kf kf S1 v e r1 r2 rv | exact Ks k1 l1 v1 S1 e r1 r2 rk rv
  · show G _ _ _ _ _ _ _ _ _ _ _ _ _
    refine G_istore_n (pc := 4) (ls' := [(1, _), (0, _)]) dX10_added_4 (by decide) rfl ?_
    first | exact Kf kf S1 v e r1 r2 rv | exact Ks k1 l1 v1 S1 e r1 r2 rk rv
set_option maxRecDepth 100000 in
set_option maxHeartbeats 4000000 in
theorem st_both {g : GC} {sh : SH} {N : Int} {B env : Int → Int} {f : Nat} (H0 : GmC g sh N B env mX10_not 3 4 7 f) (HL : GmL g sh N B env mX10_both 8 8 f) : GmC g sh N B env mX10_both 4 5 8 (f + 1) := by
  intro k o S n Q hn ho hk hY hC hF hS
  have h96 := hY.1.1
  refine GCall.of (by decide) (Nat.le_of_ble_eq_true rfl) (ls := [(0, _)]) rfl ?_
  have Kf : ∀ (kf : Nat) (S1 : SS) (v : Int), prs (tkk B) f 3 k o = .inl kf → GrS S S1 → MtF S1 (tka N B kf) → (-2147483648 ≤ v ∧ v ≤ 2147483647) → G g mX10_both (7 * (5 - o) + 8) 0 0 5 [(1, .int (iI v)), (0, gr g 96)] [] (hp g sh S1) n 0 0 Q := by
    intro kf S1 v e r1 r2 rv
    refine S_aload_n (pc := 5) dX10_both_5 rfl ?_
    refine G_sipush (pc := 6) dX10_both_6 rfl ?_
    refine S_callV (pc := 9) (ci := 10) (d2 := 1) (mc2 := 0) (ms2 := 0) (As := [_]) dX10_both_9 kX10_isWord lkX10_240 (by assumption) rfl rfl rfl (Nat.le_of_ble_eq_true rfl) ⟨by(omega),by(decide)⟩ (by decide) ?_
    refine c_X10_isWordF h96 r2 ?_
    show G _ _ _ _ _ _ _ _ _ _ _ _ _
    refine G_if_eq_t (pc := 12) 41 dX10_both_12 rfl (by omega) (by decide) ?_
    refine G_iload_n (pc := 41) dX10_both_41 rfl ?_
    refine G_iret (pc := 42) dX10_both_42 rfl (by decide) ?_
    exact hF kf S1 v (by show bnd (prs (tkk B) f 3 k o) _ = _; rw [e]; rfl) r1 r2 rv
  have Ks : ∀ (k1 : Nat) (l1 : List Int) (v1 : Int) (S1 : SS), prs (tkk B) f 3 k o = .inr (k1, l1) → GrS S S1 → MtC S1 N B k1 o → (k ≤ k1 ∧ (k1 : Int) ≤ N) → Val env l1 v1 → G g mX10_both (7 * (5 - o) + 8) 0 0 5 [(1, .int (iI v1)), (0, gr g 96)] [] (hp g sh S1) n 0 0 Q := by
    intro k1 l1 v1 S1 e r1 r2 rk rv
    exact HL k1 o S1 n Q v1 (by omega) ho rk.2 (MtY_gr r1 hY) r2 rv.2 (fun kf S2 v e2 q1 q2 q3 => hF kf S2 v (by show bnd (prs (tkk B) f 3 k o) _ = _; rw [e]; show bnd (prs (tkk B) f 8 k1 o) _ = _; rw [e2]; rfl) (GrS_tr r1 q1) q2 q3) (fun k2 l2 v2 S2 e2 q1 q2 qk qv => hS k2 (l1 ++ l2) v2 S2 (by show bnd (prs (tkk B) f 3 k o) _ = _; rw [e]; show bnd (prs (tkk B) f 8 k1 o) _ = _; rw [e2]; rfl) (GrS_tr r1 q1) q2 (by omega) (Val_app rv qv))
  refine S_aload_n (pc := 0) dX10_both_0 rfl ?_
  refine S_callV (pc := 1) (ci := 10) (d2 := (7*(5-o)+7)) (mc2 := 0) (ms2 := 0) (As := []) dX10_both_1 kX10_not lkX10_243 (by assumption) rfl rfl rfl (Nat.le_of_ble_eq_true rfl) ⟨by(omega),by(decide)⟩ (by decide) ?_
  refine H0 k o S n _ (by omega) ho hk hY hC (fun kf S1 v e r1 r2 rv => ?_) (fun k1 l1 v1 S1 e r1 r2 rk rv => ?_)
  · show G _ _ _ _ _ _ _ _ _ _ _ _ _
    refine G_istore_n (pc := 4) (ls' := [(1, _), (0, _)]) dX10_both_4 (by decide) rfl ?_
    first | exact Kf kf S1 v e r1 r2 rv | exact Ks k1 l1 v1 S1 e r1 r2 rk rv
  · show G _ _ _ _ _ _ _ _ _ _ _ _ _
    refine G_istore_n (pc := 4) (ls' := [(1, _), (0, _)]) dX10_both_4 (by decide) rfl ?_
    first | exact Kf kf S1 v e r1 r2 rv | exact Ks k1 l1 v1 S1 e r1 r2 rk rv
set_option maxRecDepth 100000 in
set_option maxHeartbeats 4000000 in
theorem st_either {g : GC} {sh : SH} {N : Int} {B env : Int → Int} {f : Nat} (H0 : GmC g sh N B env mX10_both 4 5 8 f) (HL : GmL g sh N B env mX10_either 9 9 f) : GmC g sh N B env mX10_either 5 6 9 (f + 1) := by
  intro k o S n Q hn ho hk hY hC hF hS
  have h96 := hY.1.1
  refine GCall.of (by decide) (Nat.le_of_ble_eq_true rfl) (ls := [(0, _)]) rfl ?_
  have Kf : ∀ (kf : Nat) (S1 : SS) (v : Int), prs (tkk B) f 4 k o = .inl kf → GrS S S1 → MtF S1 (tka N B kf) → (-2147483648 ≤ v ∧ v ≤ 2147483647) → G g mX10_either (7 * (5 - o) + 9) 0 0 5 [(1, .int (iI v)), (0, gr g 96)] [] (hp g sh S1) n 0 0 Q := by
    intro kf S1 v e r1 r2 rv
    refine S_aload_n (pc := 5) dX10_either_5 rfl ?_
    refine G_sipush (pc := 6) dX10_either_6 rfl ?_
    refine S_callV (pc := 9) (ci := 10) (d2 := 1) (mc2 := 0) (ms2 := 0) (As := [_]) dX10_either_9 kX10_isWord lkX10_240 (by assumption) rfl rfl rfl (Nat.le_of_ble_eq_true rfl) ⟨by(omega),by(decide)⟩ (by decide) ?_
    refine c_X10_isWordF h96 r2 ?_
    show G _ _ _ _ _ _ _ _ _ _ _ _ _
    refine G_if_eq_t (pc := 12) 41 dX10_either_12 rfl (by omega) (by decide) ?_
    refine G_iload_n (pc := 41) dX10_either_41 rfl ?_
    refine G_iret (pc := 42) dX10_either_42 rfl (by decide) ?_
    exact hF kf S1 v (by show bnd (prs (tkk B) f 4 k o) _ = _; rw [e]; rfl) r1 r2 rv
  have Ks : ∀ (k1 : Nat) (l1 : List Int) (v1 : Int) (S1 : SS), prs (tkk B) f 4 k o = .inr (k1, l1) → GrS S S1 → MtC S1 N B k1 o → (k ≤ k1 ∧ (k1 : Int) ≤ N) → Val env l1 v1 → G g mX10_either (7 * (5 - o) + 9) 0 0 5 [(1, .int (iI v1)), (0, gr g 96)] [] (hp g sh S1) n 0 0 Q := by
    intro k1 l1 v1 S1 e r1 r2 rk rv
    exact HL k1 o S1 n Q v1 (by omega) ho rk.2 (MtY_gr r1 hY) r2 rv.2 (fun kf S2 v e2 q1 q2 q3 => hF kf S2 v (by show bnd (prs (tkk B) f 4 k o) _ = _; rw [e]; show bnd (prs (tkk B) f 9 k1 o) _ = _; rw [e2]; rfl) (GrS_tr r1 q1) q2 q3) (fun k2 l2 v2 S2 e2 q1 q2 qk qv => hS k2 (l1 ++ l2) v2 S2 (by show bnd (prs (tkk B) f 4 k o) _ = _; rw [e]; show bnd (prs (tkk B) f 9 k1 o) _ = _; rw [e2]; rfl) (GrS_tr r1 q1) q2 (by omega) (Val_app rv qv))
  refine S_aload_n (pc := 0) dX10_either_0 rfl ?_
  refine S_callV (pc := 1) (ci := 10) (d2 := (7*(5-o)+8)) (mc2 := 0) (ms2 := 0) (As := []) dX10_either_1 kX10_both lkX10_249 (by assumption) rfl rfl rfl (Nat.le_of_ble_eq_true rfl) ⟨by(omega),by(decide)⟩ (by decide) ?_
  refine H0 k o S n _ (by omega) ho hk hY hC (fun kf S1 v e r1 r2 rv => ?_) (fun k1 l1 v1 S1 e r1 r2 rk rv => ?_)
  · show G _ _ _ _ _ _ _ _ _ _ _ _ _
    refine G_istore_n (pc := 4) (ls' := [(1, _), (0, _)]) dX10_either_4 (by decide) rfl ?_
    first | exact Kf kf S1 v e r1 r2 rv | exact Ks k1 l1 v1 S1 e r1 r2 rk rv
  · show G _ _ _ _ _ _ _ _ _ _ _ _ _
    refine G_istore_n (pc := 4) (ls' := [(1, _), (0, _)]) dX10_either_4 (by decide) rfl ?_
    first | exact Kf kf S1 v e r1 r2 rv | exact Ks k1 l1 v1 S1 e r1 r2 rk rv
set_option maxRecDepth 100000 in
set_option maxHeartbeats 4000000 in
theorem lp_term {g : GC} {sh : SH} {N : Int} {B env : Int → Int} {f : Nat} (H0 : GmC g sh N B env mX10_one 0 1 4 f) (HL : GmL g sh N B env mX10_term 6 5 f) : GmL g sh N B env mX10_term 6 5 (f + 1) := by
  intro k o S n Q v0 hn ho hk hY hC hv0 hF hS
  have h96 := hY.1.1
  have hX := hY.1
  have hB := hX.2.2.2.1
  have hT := hC.2.2.1
  have hgo : ∀ s : Int, (s = -11 ∨ s = -12 ∨ s = -14 ∨ s = -15 ∨ s = -16 ∨ s = -17 ∨ s = -18) → tkk B k ≠ 256 → prs (tkk B) (f + 1) 6 k o = bnd (prs (tkk B) f 0 (k + 1) o) (fun k1 l1 => bnd (prs (tkk B) f 6 k1 o) (fun k2 l2 => .inr (k2, l1 ++ (s :: l2)))) →
      (∀ (kf : Nat) (S1 : SS) (v : Int), prs (tkk B) f 0 (k + 1) o = .inl kf → GrS S S1 → MtF S1 (tka N B kf) → (-2147483648 ≤ v ∧ v ≤ 2147483647) → G g mX10_term (7 * (5 - o) + 5) 0 0 5 [(1, .int (iI v)), (0, gr g 96)] [] (hp g sh S1) n 0 0 Q) ∧
      (∀ (k1 : Nat) (l1 : List Int) (v1 v2 : Int) (S1 : SS), prs (tkk B) f 0 (k + 1) o = .inr (k1, l1) → GrS S S1 → MtC S1 N B k1 o → (k + 1 ≤ k1 ∧ (k1 : Int) ≤ N) → Val env l1 v1 → v2 = of2 s v0 v1 → G g mX10_term (7 * (5 - o) + 5) 0 0 5 [(1, .int (iI v2)), (0, gr g 96)] [] (hp g sh S1) n 0 0 Q) := by
    intro s hs hne hpr
    have hkN := tk_in hB hne
    rw [hpr] at hF hS
    refine ⟨?_, ?_⟩
    · intro kf S1 v e r1 r2 rv
      refine S_aload_n (pc := 5) dX10_term_5 rfl ?_
      refine G_bipush (pc := 6) dX10_term_6 rfl ?_
      refine S_callV (pc := 8) (ci := 10) (d2 := 1) (mc2 := 0) (ms2 := 0) (As := [_]) dX10_term_8 kX10_isSign lkX10_220 (by assumption) rfl rfl rfl (Nat.le_of_ble_eq_true rfl) ⟨by(omega),by(decide)⟩ (by decide) ?_
      refine c_X10_isSignF h96 r2 ?_
      show G _ _ _ _ _ _ _ _ _ _ _ _ _
      refine G_if_eq_t (pc := 11) 28 dX10_term_11 rfl (by omega) (by decide) ?_
      refine G_iload_n (pc := 28) dX10_term_28 rfl ?_
      refine G_iret (pc := 29) dX10_term_29 rfl (by decide) ?_
      exact hF kf S1 v (by rw [e]; rfl) r1 r2 rv
    · intro k1 l1 v1 v2 S1 e r1 r2 rk rv hv2
      rw [hv2]
      exact HL k1 o S1 n Q (of2 s v0 v1) (by omega) ho rk.2 (MtY_gr r1 hY) r2 of2_bd (fun kf S2 v e2 q1 q2 q3 => hF kf S2 v (by rw [e]; show bnd (prs (tkk B) f 6 k1 o) _ = _; rw [e2]; rfl) (GrS_tr r1 q1) q2 q3) (fun k2 l2 v2 S2 e2 q1 q2 qk qv => hS k2 (l1 ++ (s :: l2)) v2 S2 (by rw [e]; show bnd (prs (tkk B) f 6 k1 o) _ = _; rw [e2]; rfl) (GrS_tr r1 q1) q2 (by omega) (VaL_step hs rv qv))
  by_cases c : tkk B k = 42
  · obtain ⟨Kf, Ks⟩ := hgo (-18) (by omega) (by omega) (if_pos c)
    have hkN := tk_in hB (k := k) (by omega)
    refine S_aload_n (pc := 5) dX10_term_5 rfl ?_
    refine G_bipush (pc := 6) dX10_term_6 rfl ?_
    refine S_callV (pc := 8) (ci := 10) (d2 := 1) (mc2 := 0) (ms2 := 0) (As := [_]) dX10_term_8 kX10_isSign lkX10_220 (by assumption) rfl rfl rfl (Nat.le_of_ble_eq_true rfl) ⟨by(omega),by(decide)⟩ (by decide) ?_
    refine c_X10_isSignC h96 hC (by decide) (fun _ => ?_) (fun z => absurd c z)
    · show G _ _ _ _ _ _ _ _ _ _ _ _ _
      refine G_if_eq_f (pc := 11) 28 dX10_term_11 rfl (by decide) (by decide) ?_
      refine S_aload_n (pc := 14) dX10_term_14 rfl ?_
      refine S_callV (pc := 15) (ci := 10) (d2 := 2) (mc2 := 0) (ms2 := 0) (As := []) dX10_term_15 kX10_next lkX10_202 (by assumption) rfl rfl rfl (Nat.le_of_ble_eq_true rfl) ⟨by(omega),by(decide)⟩ (by decide) ?_
      refine c_X10_nextC hX hC (by omega) (fun S1 r1 r2 => ?_)
      · show G _ _ _ _ _ _ _ _ _ _ _ _ _
        refine G_iload_n (pc := 18) dX10_term_18 rfl ?_
        refine S_aload_n (pc := 19) dX10_term_19 rfl ?_
        refine S_callV (pc := 20) (ci := 10) (d2 := (7*(5-o)+4)) (mc2 := 0) (ms2 := 0) (As := []) dX10_term_20 kX10_one lkX10_227 (by assumption) rfl rfl rfl (Nat.le_of_ble_eq_true rfl) ⟨by(omega),by(decide)⟩ (by decide) ?_
        refine H0 (k + 1) o S1 n _ (by omega) ho (by omega) (MtY_gr r1 hY) r2 (fun kf S2 v e q1 q2 qv => ?_) (fun k1 l1 v1 S2 e q1 q2 qk qv => ?_)
        · show G _ _ _ _ _ _ _ _ _ _ _ _ _
          refine G_imul (pc := 23) dX10_term_23 ?_
          refine G_istore_n (pc := 24) (ls' := [(1, _), (0, _)]) dX10_term_24 (by decide) rfl ?_
          refine G_goto (pc := 25) 5 dX10_term_25 rfl ?_
          first
            | (rw [← iI_bw (z := v0 * v)]; exact Kf kf S2 _ e (GrS_tr r1 q1) q2 bw_bd)
            | (rw [← iI_bw (z := v0 * v1)]; exact Ks k1 l1 v1 _ S2 e (GrS_tr r1 q1) q2 qk qv rfl)
        · show G _ _ _ _ _ _ _ _ _ _ _ _ _
          refine G_imul (pc := 23) dX10_term_23 ?_
          refine G_istore_n (pc := 24) (ls' := [(1, _), (0, _)]) dX10_term_24 (by decide) rfl ?_
          refine G_goto (pc := 25) 5 dX10_term_25 rfl ?_
          first
            | (rw [← iI_bw (z := v0 * v)]; exact Kf kf S2 _ e (GrS_tr r1 q1) q2 bw_bd)
            | (rw [← iI_bw (z := v0 * v1)]; exact Ks k1 l1 v1 _ S2 e (GrS_tr r1 q1) q2 qk qv rfl)
  · have hp1 : prs (tkk B) (f + 1) 6 k o = .inr (k, []) := if_neg c
    refine S_aload_n (pc := 5) dX10_term_5 rfl ?_
    refine G_bipush (pc := 6) dX10_term_6 rfl ?_
    refine S_callV (pc := 8) (ci := 10) (d2 := 1) (mc2 := 0) (ms2 := 0) (As := [_]) dX10_term_8 kX10_isSign lkX10_220 (by assumption) rfl rfl rfl (Nat.le_of_ble_eq_true rfl) ⟨by(omega),by(decide)⟩ (by decide) ?_
    refine c_X10_isSignC h96 hC (by decide) (fun z => absurd z c) (fun _ => ?_)
    · show G _ _ _ _ _ _ _ _ _ _ _ _ _
      refine G_if_eq_t (pc := 11) 28 dX10_term_11 rfl (by decide) (by decide) ?_
      refine G_iload_n (pc := 28) dX10_term_28 rfl ?_
      refine G_iret (pc := 29) dX10_term_29 rfl (by decide) ?_
      exact hS k [] v0 S hp1 GrS_rf hC ⟨Nat.le_refl _, hk⟩ (VaL_nil hv0)
set_option maxRecDepth 100000 in
set_option maxHeartbeats 4000000 in
theorem lp_added {g : GC} {sh : SH} {N : Int} {B env : Int → Int} {f : Nat} (H0 : GmC g sh N B env mX10_term 1 2 5 f) (HL : GmL g sh N B env mX10_added 7 6 f) : GmL g sh N B env mX10_added 7 6 (f + 1) := by
  intro k o S n Q v0 hn ho hk hY hC hv0 hF hS
  have h96 := hY.1.1
  have hX := hY.1
  have hB := hX.2.2.2.1
  have hT := hC.2.2.1
  have hgo : ∀ s : Int, (s = -11 ∨ s = -12 ∨ s = -14 ∨ s = -15 ∨ s = -16 ∨ s = -17 ∨ s = -18) → tkk B k ≠ 256 → prs (tkk B) (f + 1) 7 k o = bnd (prs (tkk B) f 1 (k + 1) o) (fun k1 l1 => bnd (prs (tkk B) f 7 k1 o) (fun k2 l2 => .inr (k2, l1 ++ (s :: l2)))) →
      (∀ (kf : Nat) (S1 : SS) (v : Int), prs (tkk B) f 1 (k + 1) o = .inl kf → GrS S S1 → MtF S1 (tka N B kf) → (-2147483648 ≤ v ∧ v ≤ 2147483647) → G g mX10_added (7 * (5 - o) + 6) 0 0 5 [(1, .int (iI v)), (0, gr g 96)] [] (hp g sh S1) n 0 0 Q) ∧
      (∀ (k1 : Nat) (l1 : List Int) (v1 v2 : Int) (S1 : SS), prs (tkk B) f 1 (k + 1) o = .inr (k1, l1) → GrS S S1 → MtC S1 N B k1 o → (k + 1 ≤ k1 ∧ (k1 : Int) ≤ N) → Val env l1 v1 → v2 = of2 s v0 v1 → G g mX10_added (7 * (5 - o) + 6) 0 0 5 [(1, .int (iI v2)), (0, gr g 96)] [] (hp g sh S1) n 0 0 Q) := by
    intro s hs hne hpr
    have hkN := tk_in hB hne
    rw [hpr] at hF hS
    refine ⟨?_, ?_⟩
    · intro kf S1 v e r1 r2 rv
      refine S_aload_n (pc := 5) dX10_added_5 rfl ?_
      refine G_bipush (pc := 6) dX10_added_6 rfl ?_
      refine S_callV (pc := 8) (ci := 10) (d2 := 1) (mc2 := 0) (ms2 := 0) (As := [_]) dX10_added_8 kX10_isSign lkX10_220 (by assumption) rfl rfl rfl (Nat.le_of_ble_eq_true rfl) ⟨by(omega),by(decide)⟩ (by decide) ?_
      refine c_X10_isSignF h96 r2 ?_
      show G _ _ _ _ _ _ _ _ _ _ _ _ _
      refine G_if_ne_f (pc := 11) 23 dX10_added_11 rfl (by omega) (by decide) ?_
      refine S_aload_n (pc := 14) dX10_added_14 rfl ?_
      refine G_bipush (pc := 15) dX10_added_15 rfl ?_
      refine S_callV (pc := 17) (ci := 10) (d2 := 1) (mc2 := 0) (ms2 := 0) (As := [_]) dX10_added_17 kX10_isSign lkX10_220 (by assumption) rfl rfl rfl (Nat.le_of_ble_eq_true rfl) ⟨by(omega),by(decide)⟩ (by decide) ?_
      refine c_X10_isSignF h96 r2 ?_
      show G _ _ _ _ _ _ _ _ _ _ _ _ _
      refine G_if_eq_t (pc := 20) 64 dX10_added_20 rfl (by omega) (by decide) ?_
      refine G_iload_n (pc := 64) dX10_added_64 rfl ?_
      refine G_iret (pc := 65) dX10_added_65 rfl (by decide) ?_
      exact hF kf S1 v (by rw [e]; rfl) r1 r2 rv
    · intro k1 l1 v1 v2 S1 e r1 r2 rk rv hv2
      rw [hv2]
      exact HL k1 o S1 n Q (of2 s v0 v1) (by omega) ho rk.2 (MtY_gr r1 hY) r2 of2_bd (fun kf S2 v e2 q1 q2 q3 => hF kf S2 v (by rw [e]; show bnd (prs (tkk B) f 7 k1 o) _ = _; rw [e2]; rfl) (GrS_tr r1 q1) q2 q3) (fun k2 l2 v2 S2 e2 q1 q2 qk qv => hS k2 (l1 ++ (s :: l2)) v2 S2 (by rw [e]; show bnd (prs (tkk B) f 7 k1 o) _ = _; rw [e2]; rfl) (GrS_tr r1 q1) q2 (by omega) (VaL_step hs rv qv))
  by_cases c : tkk B k = 43
  · obtain ⟨Kf, Ks⟩ := hgo (-16) (by omega) (by omega) (if_pos c)
    have hkN := tk_in hB (k := k) (by omega)
    have hw : S.1 96 19 = 43 := ((TokR_sign (s := 43) hT (by decide)).mpr c).2
    refine S_aload_n (pc := 5) dX10_added_5 rfl ?_
    refine G_bipush (pc := 6) dX10_added_6 rfl ?_
    refine S_callV (pc := 8) (ci := 10) (d2 := 1) (mc2 := 0) (ms2 := 0) (As := [_]) dX10_added_8 kX10_isSign lkX10_220 (by assumption) rfl rfl rfl (Nat.le_of_ble_eq_true rfl) ⟨by(omega),by(decide)⟩ (by decide) ?_
    refine c_X10_isSignC h96 hC (by decide) (fun _ => ?_) (fun z => absurd c z)
    · show G _ _ _ _ _ _ _ _ _ _ _ _ _
      refine G_if_ne_t (pc := 11) 23 dX10_added_11 rfl (by decide) (by decide) ?_
      refine S_aload_n (pc := 23) dX10_added_23 rfl ?_
      refine S_getI (pc := 24) dX10_added_24 fX10_186 (by assumption) rfl ?_
      rw [hw]
      refine G_bipush (pc := 27) dX10_added_27 rfl ?_
      refine G_icmp_ne_f (pc := 29) 36 dX10_added_29 rfl (by omega) (by decide) ?_
      refine G_iconst (pc := 32) dX10_added_32 ?_
      refine G_goto (pc := 33) 37 dX10_added_33 rfl ?_
      refine G_istore_n (pc := 37) (ls' := [(2, _), (1, _), (0, _)]) dX10_added_37 (by decide) rfl ?_
      refine S_aload_n (pc := 38) dX10_added_38 rfl ?_
      refine S_callV (pc := 39) (ci := 10) (d2 := 2) (mc2 := 0) (ms2 := 0) (As := []) dX10_added_39 kX10_next lkX10_202 (by assumption) rfl rfl rfl (Nat.le_of_ble_eq_true rfl) ⟨by(omega),by(decide)⟩ (by decide) ?_
      refine c_X10_nextC hX hC (by omega) (fun S1 r1 r2 => ?_)
      · show G _ _ _ _ _ _ _ _ _ _ _ _ _
        refine S_aload_n (pc := 42) dX10_added_42 rfl ?_
        refine S_callV (pc := 43) (ci := 10) (d2 := (7*(5-o)+5)) (mc2 := 0) (ms2 := 0) (As := []) dX10_added_43 kX10_term lkX10_237 (by assumption) rfl rfl rfl (Nat.le_of_ble_eq_true rfl) ⟨by(omega),by(decide)⟩ (by decide) ?_
        refine H0 (k + 1) o S1 n _ (by omega) ho (by omega) (MtY_gr r1 hY) r2 (fun kf S2 v e q1 q2 qv => ?_) (fun k1 l1 v1 S2 e q1 q2 qk qv => ?_)
        · show G _ _ _ _ _ _ _ _ _ _ _ _ _
          refine G_istore_n (pc := 46) (ls' := [(3, _), (2, _), (1, _), (0, _)]) dX10_added_46 (by decide) rfl ?_
          refine G_iload_n (pc := 47) dX10_added_47 rfl ?_
          refine G_if_eq_f (pc := 48) 57 dX10_added_48 rfl (by omega) (by decide) ?_
          refine G_iload_n (pc := 51) dX10_added_51 rfl ?_
          refine G_iload_n (pc := 52) dX10_added_52 rfl ?_
          refine G_iadd (pc := 53) dX10_added_53 ?_
          refine G_goto (pc := 54) 60 dX10_added_54 rfl ?_
          refine G_istore_n (pc := 60) (ls' := [(1, _), (3, _), (2, _), (0, _)]) dX10_added_60 (by decide) rfl ?_
          refine G_goto (pc := 61) 5 dX10_added_61 rfl ?_
          refine G_ls (ls' := [(1, _), (0, _)]) (lsub_c rfl (lsub_c rfl lsub_n)) ?_
          first
            | (rw [← iI_bw (z := v0 + v)]; exact Kf kf S2 _ e (GrS_tr r1 q1) q2 bw_bd)
            | (rw [← iI_bw (z := v0 + v1)]; exact Ks k1 l1 v1 _ S2 e (GrS_tr r1 q1) q2 qk qv rfl)
        · show G _ _ _ _ _ _ _ _ _ _ _ _ _
          refine G_istore_n (pc := 46) (ls' := [(3, _), (2, _), (1, _), (0, _)]) dX10_added_46 (by decide) rfl ?_
          refine G_iload_n (pc := 47) dX10_added_47 rfl ?_
          refine G_if_eq_f (pc := 48) 57 dX10_added_48 rfl (by omega) (by decide) ?_
          refine G_iload_n (pc := 51) dX10_added_51 rfl ?_
          refine G_iload_n (pc := 52) dX10_added_52 rfl ?_
          refine G_iadd (pc := 53) dX10_added_53 ?_
          refine G_goto (pc := 54) 60 dX10_added_54 rfl ?_
          refine G_istore_n (pc := 60) (ls' := [(1, _), (3, _), (2, _), (0, _)]) dX10_added_60 (by decide) rfl ?_
          refine G_goto (pc := 61) 5 dX10_added_61 rfl ?_
          refine G_ls (ls' := [(1, _), (0, _)]) (lsub_c rfl (lsub_c rfl lsub_n)) ?_
          first
            | (rw [← iI_bw (z := v0 + v)]; exact Kf kf S2 _ e (GrS_tr r1 q1) q2 bw_bd)
            | (rw [← iI_bw (z := v0 + v1)]; exact Ks k1 l1 v1 _ S2 e (GrS_tr r1 q1) q2 qk qv rfl)
  · by_cases c2 : tkk B k = 45
    · obtain ⟨Kf, Ks⟩ := hgo (-17) (by omega) (by omega) ((if_neg c).trans (if_pos c2))
      have hkN := tk_in hB (k := k) (by omega)
      have hw : S.1 96 19 = 45 := ((TokR_sign (s := 45) hT (by decide)).mpr c2).2
      refine S_aload_n (pc := 5) dX10_added_5 rfl ?_
      refine G_bipush (pc := 6) dX10_added_6 rfl ?_
      refine S_callV (pc := 8) (ci := 10) (d2 := 1) (mc2 := 0) (ms2 := 0) (As := [_]) dX10_added_8 kX10_isSign lkX10_220 (by assumption) rfl rfl rfl (Nat.le_of_ble_eq_true rfl) ⟨by(omega),by(decide)⟩ (by decide) ?_
      refine c_X10_isSignC h96 hC (by decide) (fun z => absurd z c) (fun _ => ?_)
      · show G _ _ _ _ _ _ _ _ _ _ _ _ _
        refine G_if_ne_f (pc := 11) 23 dX10_added_11 rfl (by decide) (by decide) ?_
        refine S_aload_n (pc := 14) dX10_added_14 rfl ?_
        refine G_bipush (pc := 15) dX10_added_15 rfl ?_
        refine S_callV (pc := 17) (ci := 10) (d2 := 1) (mc2 := 0) (ms2 := 0) (As := [_]) dX10_added_17 kX10_isSign lkX10_220 (by assumption) rfl rfl rfl (Nat.le_of_ble_eq_true rfl) ⟨by(omega),by(decide)⟩ (by decide) ?_
        refine c_X10_isSignC h96 hC (by decide) (fun _ => ?_) (fun z => absurd c2 z)
        · show G _ _ _ _ _ _ _ _ _ _ _ _ _
          refine G_if_eq_f (pc := 20) 64 dX10_added_20 rfl (by decide) (by decide) ?_
          refine S_aload_n (pc := 23) dX10_added_23 rfl ?_
          refine S_getI (pc := 24) dX10_added_24 fX10_186 (by assumption) rfl ?_
          rw [hw]
          refine G_bipush (pc := 27) dX10_added_27 rfl ?_
          refine G_icmp_ne_t (pc := 29) 36 dX10_added_29 rfl (by omega) (by decide) ?_
          refine G_iconst (pc := 36) dX10_added_36 ?_
          refine G_istore_n (pc := 37) (ls' := [(2, _), (1, _), (0, _)]) dX10_added_37 (by decide) rfl ?_
          refine S_aload_n (pc := 38) dX10_added_38 rfl ?_
          refine S_callV (pc := 39) (ci := 10) (d2 := 2) (mc2 := 0) (ms2 := 0) (As := []) dX10_added_39 kX10_next lkX10_202 (by assumption) rfl rfl rfl (Nat.le_of_ble_eq_true rfl) ⟨by(omega),by(decide)⟩ (by decide) ?_
          refine c_X10_nextC hX hC (by omega) (fun S1 r1 r2 => ?_)
          · show G _ _ _ _ _ _ _ _ _ _ _ _ _
            refine S_aload_n (pc := 42) dX10_added_42 rfl ?_
            refine S_callV (pc := 43) (ci := 10) (d2 := (7*(5-o)+5)) (mc2 := 0) (ms2 := 0) (As := []) dX10_added_43 kX10_term lkX10_237 (by assumption) rfl rfl rfl (Nat.le_of_ble_eq_true rfl) ⟨by(omega),by(decide)⟩ (by decide) ?_
            refine H0 (k + 1) o S1 n _ (by omega) ho (by omega) (MtY_gr r1 hY) r2 (fun kf S2 v e q1 q2 qv => ?_) (fun k1 l1 v1 S2 e q1 q2 qk qv => ?_)
            · show G _ _ _ _ _ _ _ _ _ _ _ _ _
              refine G_istore_n (pc := 46) (ls' := [(3, _), (2, _), (1, _), (0, _)]) dX10_added_46 (by decide) rfl ?_
              refine G_iload_n (pc := 47) dX10_added_47 rfl ?_
              refine G_if_eq_t (pc := 48) 57 dX10_added_48 rfl (by omega) (by decide) ?_
              refine G_iload_n (pc := 57) dX10_added_57 rfl ?_
              refine G_iload_n (pc := 58) dX10_added_58 rfl ?_
              refine G_isub (pc := 59) dX10_added_59 ?_
              refine G_istore_n (pc := 60) (ls' := [(1, _), (3, _), (2, _), (0, _)]) dX10_added_60 (by decide) rfl ?_
              refine G_goto (pc := 61) 5 dX10_added_61 rfl ?_
              refine G_ls (ls' := [(1, _), (0, _)]) (lsub_c rfl (lsub_c rfl lsub_n)) ?_
              first
                | (rw [← iI_bw (z := v0 - v)]; exact Kf kf S2 _ e (GrS_tr r1 q1) q2 bw_bd)
                | (rw [← iI_bw (z := v0 - v1)]; exact Ks k1 l1 v1 _ S2 e (GrS_tr r1 q1) q2 qk qv rfl)
            · show G _ _ _ _ _ _ _ _ _ _ _ _ _
              refine G_istore_n (pc := 46) (ls' := [(3, _), (2, _), (1, _), (0, _)]) dX10_added_46 (by decide) rfl ?_
              refine G_iload_n (pc := 47) dX10_added_47 rfl ?_
              refine G_if_eq_t (pc := 48) 57 dX10_added_48 rfl (by omega) (by decide) ?_
              refine G_iload_n (pc := 57) dX10_added_57 rfl ?_
              refine G_iload_n (pc := 58) dX10_added_58 rfl ?_
              refine G_isub (pc := 59) dX10_added_59 ?_
              refine G_istore_n (pc := 60) (ls' := [(1, _), (3, _), (2, _), (0, _)]) dX10_added_60 (by decide) rfl ?_
              refine G_goto (pc := 61) 5 dX10_added_61 rfl ?_
              refine G_ls (ls' := [(1, _), (0, _)]) (lsub_c rfl (lsub_c rfl lsub_n)) ?_
              first
                | (rw [← iI_bw (z := v0 - v)]; exact Kf kf S2 _ e (GrS_tr r1 q1) q2 bw_bd)
                | (rw [← iI_bw (z := v0 - v1)]; exact Ks k1 l1 v1 _ S2 e (GrS_tr r1 q1) q2 qk qv rfl)
    · have hp1 : prs (tkk B) (f + 1) 7 k o = .inr (k, []) := (if_neg c).trans (if_neg c2)
      refine S_aload_n (pc := 5) dX10_added_5 rfl ?_
      refine G_bipush (pc := 6) dX10_added_6 rfl ?_
      refine S_callV (pc := 8) (ci := 10) (d2 := 1) (mc2 := 0) (ms2 := 0) (As := [_]) dX10_added_8 kX10_isSign lkX10_220 (by assumption) rfl rfl rfl (Nat.le_of_ble_eq_true rfl) ⟨by(omega),by(decide)⟩ (by decide) ?_
      refine c_X10_isSignC h96 hC (by decide) (fun z => absurd z c) (fun _ => ?_)
      · show G _ _ _ _ _ _ _ _ _ _ _ _ _
        refine G_if_ne_f (pc := 11) 23 dX10_added_11 rfl (by decide) (by decide) ?_
        refine S_aload_n (pc := 14) dX10_added_14 rfl ?_
        refine G_bipush (pc := 15) dX10_added_15 rfl ?_
        refine S_callV (pc := 17) (ci := 10) (d2 := 1) (mc2 := 0) (ms2 := 0) (As := [_]) dX10_added_17 kX10_isSign lkX10_220 (by assumption) rfl rfl rfl (Nat.le_of_ble_eq_true rfl) ⟨by(omega),by(decide)⟩ (by decide) ?_
        refine c_X10_isSignC h96 hC (by decide) (fun z => absurd z c2) (fun _ => ?_)
        · show G _ _ _ _ _ _ _ _ _ _ _ _ _
          refine G_if_eq_t (pc := 20) 64 dX10_added_20 rfl (by decide) (by decide) ?_
          refine G_iload_n (pc := 64) dX10_added_64 rfl ?_
          refine G_iret (pc := 65) dX10_added_65 rfl (by decide) ?_
          exact hS k [] v0 S hp1 GrS_rf hC ⟨Nat.le_refl _, hk⟩ (VaL_nil hv0)
set_option maxRecDepth 100000 in
set_option maxHeartbeats 4000000 in
theorem lp_both {g : GC} {sh : SH} {N : Int} {B env : Int → Int} {f : Nat} (H0 : GmC g sh N B env mX10_not 3 4 7 f) (HL : GmL g sh N B env mX10_both 8 8 f) : GmL g sh N B env mX10_both 8 8 (f + 1) := by
  intro k o S n Q v0 hn ho hk hY hC hv0 hF hS
  have h96 := hY.1.1
  have hX := hY.1
  have hB := hX.2.2.2.1
  have hT := hC.2.2.1
  have hgo : ∀ s : Int, (s = -11 ∨ s = -12 ∨ s = -14 ∨ s = -15 ∨ s = -16 ∨ s = -17 ∨ s = -18) → tkk B k ≠ 256 → prs (tkk B) (f + 1) 8 k o = bnd (prs (tkk B) f 3 (k + 1) o) (fun k1 l1 => bnd (prs (tkk B) f 8 k1 o) (fun k2 l2 => .inr (k2, l1 ++ (s :: l2)))) →
      (∀ (kf : Nat) (S1 : SS) (v : Int), prs (tkk B) f 3 (k + 1) o = .inl kf → GrS S S1 → MtF S1 (tka N B kf) → (-2147483648 ≤ v ∧ v ≤ 2147483647) → G g mX10_both (7 * (5 - o) + 8) 0 0 5 [(1, .int (iI v)), (0, gr g 96)] [] (hp g sh S1) n 0 0 Q) ∧
      (∀ (k1 : Nat) (l1 : List Int) (v1 v2 : Int) (S1 : SS), prs (tkk B) f 3 (k + 1) o = .inr (k1, l1) → GrS S S1 → MtC S1 N B k1 o → (k + 1 ≤ k1 ∧ (k1 : Int) ≤ N) → Val env l1 v1 → v2 = of2 s v0 v1 → G g mX10_both (7 * (5 - o) + 8) 0 0 5 [(1, .int (iI v2)), (0, gr g 96)] [] (hp g sh S1) n 0 0 Q) := by
    intro s hs hne hpr
    have hkN := tk_in hB hne
    rw [hpr] at hF hS
    refine ⟨?_, ?_⟩
    · intro kf S1 v e r1 r2 rv
      refine S_aload_n (pc := 5) dX10_both_5 rfl ?_
      refine G_sipush (pc := 6) dX10_both_6 rfl ?_
      refine S_callV (pc := 9) (ci := 10) (d2 := 1) (mc2 := 0) (ms2 := 0) (As := [_]) dX10_both_9 kX10_isWord lkX10_240 (by assumption) rfl rfl rfl (Nat.le_of_ble_eq_true rfl) ⟨by(omega),by(decide)⟩ (by decide) ?_
      refine c_X10_isWordF h96 r2 ?_
      show G _ _ _ _ _ _ _ _ _ _ _ _ _
      refine G_if_eq_t (pc := 12) 41 dX10_both_12 rfl (by omega) (by decide) ?_
      refine G_iload_n (pc := 41) dX10_both_41 rfl ?_
      refine G_iret (pc := 42) dX10_both_42 rfl (by decide) ?_
      exact hF kf S1 v (by rw [e]; rfl) r1 r2 rv
    · intro k1 l1 v1 v2 S1 e r1 r2 rk rv hv2
      rw [hv2]
      exact HL k1 o S1 n Q (of2 s v0 v1) (by omega) ho rk.2 (MtY_gr r1 hY) r2 of2_bd (fun kf S2 v e2 q1 q2 q3 => hF kf S2 v (by rw [e]; show bnd (prs (tkk B) f 8 k1 o) _ = _; rw [e2]; rfl) (GrS_tr r1 q1) q2 q3) (fun k2 l2 v2 S2 e2 q1 q2 qk qv => hS k2 (l1 ++ (s :: l2)) v2 S2 (by rw [e]; show bnd (prs (tkk B) f 8 k1 o) _ = _; rw [e2]; rfl) (GrS_tr r1 q1) q2 (by omega) (VaL_step hs rv qv))
  by_cases c : tkk B k = 264
  · obtain ⟨Kf, Ks⟩ := hgo (-12) (by omega) (by omega) (if_pos c)
    have hkN := tk_in hB (k := k) (by omega)
    have hz : ∀ a b : Int, of2 (-12) a b = (if a ≠ 0 ∧ b ≠ 0 then 1 else 0) := fun a b => rfl
    refine S_aload_n (pc := 5) dX10_both_5 rfl ?_
    refine G_sipush (pc := 6) dX10_both_6 rfl ?_
    refine S_callV (pc := 9) (ci := 10) (d2 := 1) (mc2 := 0) (ms2 := 0) (As := [_]) dX10_both_9 kX10_isWord lkX10_240 (by assumption) rfl rfl rfl (Nat.le_of_ble_eq_true rfl) ⟨by(omega),by(decide)⟩ (by decide) ?_
    refine c_X10_isWordC h96 hC wco_and (by decide) (by decide) (fun _ => ?_) (fun z => absurd c z)
    · show G _ _ _ _ _ _ _ _ _ _ _ _ _
      refine G_if_eq_f (pc := 12) 41 dX10_both_12 rfl (by decide) (by decide) ?_
      refine S_aload_n (pc := 15) dX10_both_15 rfl ?_
      refine S_callV (pc := 16) (ci := 10) (d2 := 2) (mc2 := 0) (ms2 := 0) (As := []) dX10_both_16 kX10_next lkX10_202 (by assumption) rfl rfl rfl (Nat.le_of_ble_eq_true rfl) ⟨by(omega),by(decide)⟩ (by decide) ?_
      refine c_X10_nextC hX hC (by omega) (fun S1 r1 r2 => ?_)
      · show G _ _ _ _ _ _ _ _ _ _ _ _ _
        refine S_aload_n (pc := 19) dX10_both_19 rfl ?_
        refine S_callV (pc := 20) (ci := 10) (d2 := (7*(5-o)+7)) (mc2 := 0) (ms2 := 0) (As := []) dX10_both_20 kX10_not lkX10_243 (by assumption) rfl rfl rfl (Nat.le_of_ble_eq_true rfl) ⟨by(omega),by(decide)⟩ (by decide) ?_
        refine H0 (k + 1) o S1 n _ (by omega) ho (by omega) (MtY_gr r1 hY) r2 (fun kf S2 v e q1 q2 qv => ?_) (fun k1 l1 v1 S2 e q1 q2 qk qv => ?_)
        · show G _ _ _ _ _ _ _ _ _ _ _ _ _
          have qvb := qv.2
          refine G_istore_n (pc := 23) (ls' := [(2, _), (1, _), (0, _)]) dX10_both_23 (by decide) rfl ?_
          refine G_iload_n (pc := 24) dX10_both_24 rfl ?_
          refine G_if_eq (pc := 25) 36 dX10_both_25 rfl (by omega) (fun c25 => ?_) (fun c25 => ?_)
          · skip
            refine G_iconst (pc := 36) dX10_both_36 ?_
            refine G_istore_n (pc := 37) (ls' := [(1, _), (2, _), (0, _)]) dX10_both_37 (by decide) rfl ?_
            refine G_goto (pc := 38) 5 dX10_both_38 rfl ?_
            refine G_ls (ls' := [(1, _), (0, _)]) (lsub_c rfl (lsub_c rfl lsub_n)) ?_
            first
              | exact Kf kf S2 _ e (GrS_tr r1 q1) q2 (by omega)
              | exact Ks k1 l1 v1 _ S2 e (GrS_tr r1 q1) q2 qk qv ((hz v0 v1).trans (if_pos (by omega))).symm
              | exact Ks k1 l1 v1 _ S2 e (GrS_tr r1 q1) q2 qk qv ((hz v0 v1).trans (if_neg (by omega))).symm
          · skip
            refine G_iload_n (pc := 28) dX10_both_28 rfl ?_
            refine G_if_eq (pc := 29) 36 dX10_both_29 rfl (by omega) (fun c29 => ?_) (fun c29 => ?_)
            · skip
              refine G_iconst (pc := 36) dX10_both_36 ?_
              refine G_istore_n (pc := 37) (ls' := [(1, _), (2, _), (0, _)]) dX10_both_37 (by decide) rfl ?_
              refine G_goto (pc := 38) 5 dX10_both_38 rfl ?_
              refine G_ls (ls' := [(1, _), (0, _)]) (lsub_c rfl (lsub_c rfl lsub_n)) ?_
              first
                | exact Kf kf S2 _ e (GrS_tr r1 q1) q2 (by omega)
                | exact Ks k1 l1 v1 _ S2 e (GrS_tr r1 q1) q2 qk qv ((hz v0 v1).trans (if_pos (by omega))).symm
                | exact Ks k1 l1 v1 _ S2 e (GrS_tr r1 q1) q2 qk qv ((hz v0 v1).trans (if_neg (by omega))).symm
            · skip
              refine G_iconst (pc := 32) dX10_both_32 ?_
              refine G_goto (pc := 33) 37 dX10_both_33 rfl ?_
              refine G_istore_n (pc := 37) (ls' := [(1, _), (2, _), (0, _)]) dX10_both_37 (by decide) rfl ?_
              refine G_goto (pc := 38) 5 dX10_both_38 rfl ?_
              refine G_ls (ls' := [(1, _), (0, _)]) (lsub_c rfl (lsub_c rfl lsub_n)) ?_
              first
                | exact Kf kf S2 _ e (GrS_tr r1 q1) q2 (by omega)
                | exact Ks k1 l1 v1 _ S2 e (GrS_tr r1 q1) q2 qk qv ((hz v0 v1).trans (if_pos (by omega))).symm
                | exact Ks k1 l1 v1 _ S2 e (GrS_tr r1 q1) q2 qk qv ((hz v0 v1).trans (if_neg (by omega))).symm
        · show G _ _ _ _ _ _ _ _ _ _ _ _ _
          have qvb := qv.2
          refine G_istore_n (pc := 23) (ls' := [(2, _), (1, _), (0, _)]) dX10_both_23 (by decide) rfl ?_
          refine G_iload_n (pc := 24) dX10_both_24 rfl ?_
          refine G_if_eq (pc := 25) 36 dX10_both_25 rfl (by omega) (fun c25 => ?_) (fun c25 => ?_)
          · skip
            refine G_iconst (pc := 36) dX10_both_36 ?_
            refine G_istore_n (pc := 37) (ls' := [(1, _), (2, _), (0, _)]) dX10_both_37 (by decide) rfl ?_
            refine G_goto (pc := 38) 5 dX10_both_38 rfl ?_
            refine G_ls (ls' := [(1, _), (0, _)]) (lsub_c rfl (lsub_c rfl lsub_n)) ?_
            first
              | exact Kf kf S2 _ e (GrS_tr r1 q1) q2 (by omega)
              | exact Ks k1 l1 v1 _ S2 e (GrS_tr r1 q1) q2 qk qv ((hz v0 v1).trans (if_pos (by omega))).symm
              | exact Ks k1 l1 v1 _ S2 e (GrS_tr r1 q1) q2 qk qv ((hz v0 v1).trans (if_neg (by omega))).symm
          · skip
            refine G_iload_n (pc := 28) dX10_both_28 rfl ?_
            refine G_if_eq (pc := 29) 36 dX10_both_29 rfl (by omega) (fun c29 => ?_) (fun c29 => ?_)
            · skip
              refine G_iconst (pc := 36) dX10_both_36 ?_
              refine G_istore_n (pc := 37) (ls' := [(1, _), (2, _), (0, _)]) dX10_both_37 (by decide) rfl ?_
              refine G_goto (pc := 38) 5 dX10_both_38 rfl ?_
              refine G_ls (ls' := [(1, _), (0, _)]) (lsub_c rfl (lsub_c rfl lsub_n)) ?_
              first
                | exact Kf kf S2 _ e (GrS_tr r1 q1) q2 (by omega)
                | exact Ks k1 l1 v1 _ S2 e (GrS_tr r1 q1) q2 qk qv ((hz v0 v1).trans (if_pos (by omega))).symm
                | exact Ks k1 l1 v1 _ S2 e (GrS_tr r1 q1) q2 qk qv ((hz v0 v1).trans (if_neg (by omega))).symm
            · skip
              refine G_iconst (pc := 32) dX10_both_32 ?_
              refine G_goto (pc := 33) 37 dX10_both_33 rfl ?_
              refine G_istore_n (pc := 37) (ls' := [(1, _), (2, _), (0, _)]) dX10_both_37 (by decide) rfl ?_
              refine G_goto (pc := 38) 5 dX10_both_38 rfl ?_
              refine G_ls (ls' := [(1, _), (0, _)]) (lsub_c rfl (lsub_c rfl lsub_n)) ?_
              first
                | exact Kf kf S2 _ e (GrS_tr r1 q1) q2 (by omega)
                | exact Ks k1 l1 v1 _ S2 e (GrS_tr r1 q1) q2 qk qv ((hz v0 v1).trans (if_pos (by omega))).symm
                | exact Ks k1 l1 v1 _ S2 e (GrS_tr r1 q1) q2 qk qv ((hz v0 v1).trans (if_neg (by omega))).symm
  · have hp1 : prs (tkk B) (f + 1) 8 k o = .inr (k, []) := if_neg c
    refine S_aload_n (pc := 5) dX10_both_5 rfl ?_
    refine G_sipush (pc := 6) dX10_both_6 rfl ?_
    refine S_callV (pc := 9) (ci := 10) (d2 := 1) (mc2 := 0) (ms2 := 0) (As := [_]) dX10_both_9 kX10_isWord lkX10_240 (by assumption) rfl rfl rfl (Nat.le_of_ble_eq_true rfl) ⟨by(omega),by(decide)⟩ (by decide) ?_
    refine c_X10_isWordC h96 hC wco_and (by decide) (by decide) (fun z => absurd z c) (fun _ => ?_)
    · show G _ _ _ _ _ _ _ _ _ _ _ _ _
      refine G_if_eq_t (pc := 12) 41 dX10_both_12 rfl (by decide) (by decide) ?_
      refine G_iload_n (pc := 41) dX10_both_41 rfl ?_
      refine G_iret (pc := 42) dX10_both_42 rfl (by decide) ?_
      exact hS k [] v0 S hp1 GrS_rf hC ⟨Nat.le_refl _, hk⟩ (VaL_nil hv0)
set_option maxRecDepth 100000 in
set_option maxHeartbeats 4000000 in
theorem lp_either {g : GC} {sh : SH} {N : Int} {B env : Int → Int} {f : Nat} (H0 : GmC g sh N B env mX10_both 4 5 8 f) (HL : GmL g sh N B env mX10_either 9 9 f) : GmL g sh N B env mX10_either 9 9 (f + 1) := by
  intro k o S n Q v0 hn ho hk hY hC hv0 hF hS
  have h96 := hY.1.1
  have hX := hY.1
  have hB := hX.2.2.2.1
  have hT := hC.2.2.1
  have hgo : ∀ s : Int, (s = -11 ∨ s = -12 ∨ s = -14 ∨ s = -15 ∨ s = -16 ∨ s = -17 ∨ s = -18) → tkk B k ≠ 256 → prs (tkk B) (f + 1) 9 k o = bnd (prs (tkk B) f 4 (k + 1) o) (fun k1 l1 => bnd (prs (tkk B) f 9 k1 o) (fun k2 l2 => .inr (k2, l1 ++ (s :: l2)))) →
      (∀ (kf : Nat) (S1 : SS) (v : Int), prs (tkk B) f 4 (k + 1) o = .inl kf → GrS S S1 → MtF S1 (tka N B kf) → (-2147483648 ≤ v ∧ v ≤ 2147483647) → G g mX10_either (7 * (5 - o) + 9) 0 0 5 [(1, .int (iI v)), (0, gr g 96)] [] (hp g sh S1) n 0 0 Q) ∧
      (∀ (k1 : Nat) (l1 : List Int) (v1 v2 : Int) (S1 : SS), prs (tkk B) f 4 (k + 1) o = .inr (k1, l1) → GrS S S1 → MtC S1 N B k1 o → (k + 1 ≤ k1 ∧ (k1 : Int) ≤ N) → Val env l1 v1 → v2 = of2 s v0 v1 → G g mX10_either (7 * (5 - o) + 9) 0 0 5 [(1, .int (iI v2)), (0, gr g 96)] [] (hp g sh S1) n 0 0 Q) := by
    intro s hs hne hpr
    have hkN := tk_in hB hne
    rw [hpr] at hF hS
    refine ⟨?_, ?_⟩
    · intro kf S1 v e r1 r2 rv
      refine S_aload_n (pc := 5) dX10_either_5 rfl ?_
      refine G_sipush (pc := 6) dX10_either_6 rfl ?_
      refine S_callV (pc := 9) (ci := 10) (d2 := 1) (mc2 := 0) (ms2 := 0) (As := [_]) dX10_either_9 kX10_isWord lkX10_240 (by assumption) rfl rfl rfl (Nat.le_of_ble_eq_true rfl) ⟨by(omega),by(decide)⟩ (by decide) ?_
      refine c_X10_isWordF h96 r2 ?_
      show G _ _ _ _ _ _ _ _ _ _ _ _ _
      refine G_if_eq_t (pc := 12) 41 dX10_either_12 rfl (by omega) (by decide) ?_
      refine G_iload_n (pc := 41) dX10_either_41 rfl ?_
      refine G_iret (pc := 42) dX10_either_42 rfl (by decide) ?_
      exact hF kf S1 v (by rw [e]; rfl) r1 r2 rv
    · intro k1 l1 v1 v2 S1 e r1 r2 rk rv hv2
      rw [hv2]
      exact HL k1 o S1 n Q (of2 s v0 v1) (by omega) ho rk.2 (MtY_gr r1 hY) r2 of2_bd (fun kf S2 v e2 q1 q2 q3 => hF kf S2 v (by rw [e]; show bnd (prs (tkk B) f 9 k1 o) _ = _; rw [e2]; rfl) (GrS_tr r1 q1) q2 q3) (fun k2 l2 v2 S2 e2 q1 q2 qk qv => hS k2 (l1 ++ (s :: l2)) v2 S2 (by rw [e]; show bnd (prs (tkk B) f 9 k1 o) _ = _; rw [e2]; rfl) (GrS_tr r1 q1) q2 (by omega) (VaL_step hs rv qv))
  by_cases c : tkk B k = 263
  · obtain ⟨Kf, Ks⟩ := hgo (-11) (by omega) (by omega) (if_pos c)
    have hkN := tk_in hB (k := k) (by omega)
    have hz : ∀ a b : Int, of2 (-11) a b = (if a ≠ 0 ∨ b ≠ 0 then 1 else 0) := fun a b => rfl
    refine S_aload_n (pc := 5) dX10_either_5 rfl ?_
    refine G_sipush (pc := 6) dX10_either_6 rfl ?_
    refine S_callV (pc := 9) (ci := 10) (d2 := 1) (mc2 := 0) (ms2 := 0) (As := [_]) dX10_either_9 kX10_isWord lkX10_240 (by assumption) rfl rfl rfl (Nat.le_of_ble_eq_true rfl) ⟨by(omega),by(decide)⟩ (by decide) ?_
    refine c_X10_isWordC h96 hC wco_or (by decide) (by decide) (fun _ => ?_) (fun z => absurd c z)
    · show G _ _ _ _ _ _ _ _ _ _ _ _ _
      refine G_if_eq_f (pc := 12) 41 dX10_either_12 rfl (by decide) (by decide) ?_
      refine S_aload_n (pc := 15) dX10_either_15 rfl ?_
      refine S_callV (pc := 16) (ci := 10) (d2 := 2) (mc2 := 0) (ms2 := 0) (As := []) dX10_either_16 kX10_next lkX10_202 (by assumption) rfl rfl rfl (Nat.le_of_ble_eq_true rfl) ⟨by(omega),by(decide)⟩ (by decide) ?_
      refine c_X10_nextC hX hC (by omega) (fun S1 r1 r2 => ?_)
      · show G _ _ _ _ _ _ _ _ _ _ _ _ _
        refine S_aload_n (pc := 19) dX10_either_19 rfl ?_
        refine S_callV (pc := 20) (ci := 10) (d2 := (7*(5-o)+8)) (mc2 := 0) (ms2 := 0) (As := []) dX10_either_20 kX10_both lkX10_249 (by assumption) rfl rfl rfl (Nat.le_of_ble_eq_true rfl) ⟨by(omega),by(decide)⟩ (by decide) ?_
        refine H0 (k + 1) o S1 n _ (by omega) ho (by omega) (MtY_gr r1 hY) r2 (fun kf S2 v e q1 q2 qv => ?_) (fun k1 l1 v1 S2 e q1 q2 qk qv => ?_)
        · show G _ _ _ _ _ _ _ _ _ _ _ _ _
          have qvb := qv.2
          refine G_istore_n (pc := 23) (ls' := [(2, _), (1, _), (0, _)]) dX10_either_23 (by decide) rfl ?_
          refine G_iload_n (pc := 24) dX10_either_24 rfl ?_
          refine G_if_ne (pc := 25) 32 dX10_either_25 rfl (by omega) (fun c25 => ?_) (fun c25 => ?_)
          · skip
            refine G_iconst (pc := 32) dX10_either_32 ?_
            refine G_goto (pc := 33) 37 dX10_either_33 rfl ?_
            refine G_istore_n (pc := 37) (ls' := [(1, _), (2, _), (0, _)]) dX10_either_37 (by decide) rfl ?_
            refine G_goto (pc := 38) 5 dX10_either_38 rfl ?_
            refine G_ls (ls' := [(1, _), (0, _)]) (lsub_c rfl (lsub_c rfl lsub_n)) ?_
            first
              | exact Kf kf S2 _ e (GrS_tr r1 q1) q2 (by omega)
              | exact Ks k1 l1 v1 _ S2 e (GrS_tr r1 q1) q2 qk qv ((hz v0 v1).trans (if_pos (by omega))).symm
              | exact Ks k1 l1 v1 _ S2 e (GrS_tr r1 q1) q2 qk qv ((hz v0 v1).trans (if_neg (by omega))).symm
          · skip
            refine G_iload_n (pc := 28) dX10_either_28 rfl ?_
            refine G_if_eq (pc := 29) 36 dX10_either_29 rfl (by omega) (fun c29 => ?_) (fun c29 => ?_)
            · skip
              refine G_iconst (pc := 36) dX10_either_36 ?_
              refine G_istore_n (pc := 37) (ls' := [(1, _), (2, _), (0, _)]) dX10_either_37 (by decide) rfl ?_
              refine G_goto (pc := 38) 5 dX10_either_38 rfl ?_
              refine G_ls (ls' := [(1, _), (0, _)]) (lsub_c rfl (lsub_c rfl lsub_n)) ?_
              first
                | exact Kf kf S2 _ e (GrS_tr r1 q1) q2 (by omega)
                | exact Ks k1 l1 v1 _ S2 e (GrS_tr r1 q1) q2 qk qv ((hz v0 v1).trans (if_pos (by omega))).symm
                | exact Ks k1 l1 v1 _ S2 e (GrS_tr r1 q1) q2 qk qv ((hz v0 v1).trans (if_neg (by omega))).symm
            · skip
              refine G_iconst (pc := 32) dX10_either_32 ?_
              refine G_goto (pc := 33) 37 dX10_either_33 rfl ?_
              refine G_istore_n (pc := 37) (ls' := [(1, _), (2, _), (0, _)]) dX10_either_37 (by decide) rfl ?_
              refine G_goto (pc := 38) 5 dX10_either_38 rfl ?_
              refine G_ls (ls' := [(1, _), (0, _)]) (lsub_c rfl (lsub_c rfl lsub_n)) ?_
              first
                | exact Kf kf S2 _ e (GrS_tr r1 q1) q2 (by omega)
                | exact Ks k1 l1 v1 _ S2 e (GrS_tr r1 q1) q2 qk qv ((hz v0 v1).trans (if_pos (by omega))).symm
                | exact Ks k1 l1 v1 _ S2 e (GrS_tr r1 q1) q2 qk qv ((hz v0 v1).trans (if_neg (by omega))).symm
        · show G _ _ _ _ _ _ _ _ _ _ _ _ _
          have qvb := qv.2
          refine G_istore_n (pc := 23) (ls' := [(2, _), (1, _), (0, _)]) dX10_either_23 (by decide) rfl ?_
          refine G_iload_n (pc := 24) dX10_either_24 rfl ?_
          refine G_if_ne (pc := 25) 32 dX10_either_25 rfl (by omega) (fun c25 => ?_) (fun c25 => ?_)
          · skip
            refine G_iconst (pc := 32) dX10_either_32 ?_
            refine G_goto (pc := 33) 37 dX10_either_33 rfl ?_
            refine G_istore_n (pc := 37) (ls' := [(1, _), (2, _), (0, _)]) dX10_either_37 (by decide) rfl ?_
            refine G_goto (pc := 38) 5 dX10_either_38 rfl ?_
            refine G_ls (ls' := [(1, _), (0, _)]) (lsub_c rfl (lsub_c rfl lsub_n)) ?_
            first
              | exact Kf kf S2 _ e (GrS_tr r1 q1) q2 (by omega)
              | exact Ks k1 l1 v1 _ S2 e (GrS_tr r1 q1) q2 qk qv ((hz v0 v1).trans (if_pos (by omega))).symm
              | exact Ks k1 l1 v1 _ S2 e (GrS_tr r1 q1) q2 qk qv ((hz v0 v1).trans (if_neg (by omega))).symm
          · skip
            refine G_iload_n (pc := 28) dX10_either_28 rfl ?_
            refine G_if_eq (pc := 29) 36 dX10_either_29 rfl (by omega) (fun c29 => ?_) (fun c29 => ?_)
            · skip
              refine G_iconst (pc := 36) dX10_either_36 ?_
              refine G_istore_n (pc := 37) (ls' := [(1, _), (2, _), (0, _)]) dX10_either_37 (by decide) rfl ?_
              refine G_goto (pc := 38) 5 dX10_either_38 rfl ?_
              refine G_ls (ls' := [(1, _), (0, _)]) (lsub_c rfl (lsub_c rfl lsub_n)) ?_
              first
                | exact Kf kf S2 _ e (GrS_tr r1 q1) q2 (by omega)
                | exact Ks k1 l1 v1 _ S2 e (GrS_tr r1 q1) q2 qk qv ((hz v0 v1).trans (if_pos (by omega))).symm
                | exact Ks k1 l1 v1 _ S2 e (GrS_tr r1 q1) q2 qk qv ((hz v0 v1).trans (if_neg (by omega))).symm
            · skip
              refine G_iconst (pc := 32) dX10_either_32 ?_
              refine G_goto (pc := 33) 37 dX10_either_33 rfl ?_
              refine G_istore_n (pc := 37) (ls' := [(1, _), (2, _), (0, _)]) dX10_either_37 (by decide) rfl ?_
              refine G_goto (pc := 38) 5 dX10_either_38 rfl ?_
              refine G_ls (ls' := [(1, _), (0, _)]) (lsub_c rfl (lsub_c rfl lsub_n)) ?_
              first
                | exact Kf kf S2 _ e (GrS_tr r1 q1) q2 (by omega)
                | exact Ks k1 l1 v1 _ S2 e (GrS_tr r1 q1) q2 qk qv ((hz v0 v1).trans (if_pos (by omega))).symm
                | exact Ks k1 l1 v1 _ S2 e (GrS_tr r1 q1) q2 qk qv ((hz v0 v1).trans (if_neg (by omega))).symm
  · have hp1 : prs (tkk B) (f + 1) 9 k o = .inr (k, []) := if_neg c
    refine S_aload_n (pc := 5) dX10_either_5 rfl ?_
    refine G_sipush (pc := 6) dX10_either_6 rfl ?_
    refine S_callV (pc := 9) (ci := 10) (d2 := 1) (mc2 := 0) (ms2 := 0) (As := [_]) dX10_either_9 kX10_isWord lkX10_240 (by assumption) rfl rfl rfl (Nat.le_of_ble_eq_true rfl) ⟨by(omega),by(decide)⟩ (by decide) ?_
    refine c_X10_isWordC h96 hC wco_or (by decide) (by decide) (fun z => absurd z c) (fun _ => ?_)
    · show G _ _ _ _ _ _ _ _ _ _ _ _ _
      refine G_if_eq_t (pc := 12) 41 dX10_either_12 rfl (by decide) (by decide) ?_
      refine G_iload_n (pc := 41) dX10_either_41 rfl ?_
      refine G_iret (pc := 42) dX10_either_42 rfl (by decide) ?_
      exact hS k [] v0 S hp1 GrS_rf hC ⟨Nat.le_refl _, hk⟩ (VaL_nil hv0)
set_option maxRecDepth 100000 in
set_option maxHeartbeats 4000000 in
theorem st_not {g : GC} {sh : SH} {N : Int} {B env : Int → Int} {f : Nat} (H0 : GmC g sh N B env mX10_added 2 3 6 f) (HN : GmC g sh N B env mX10_not 3 4 7 f) : GmC g sh N B env mX10_not 3 4 7 (f + 1) := by
  intro k o S n Q hn ho hk hY hC hF hS
  have h96 := hY.1.1
  have hX := hY.1
  have hB := hX.2.2.2.1
  refine GCall.of (by decide) (Nat.le_of_ble_eq_true rfl) (ls := [(0, _)]) rfl ?_
  by_cases c : tkk B k = 265
  · have hkN := tk_in hB (k := k) (by omega)
    by_cases c5 : o < 5
    · have hpr : prs (tkk B) (f + 1) 3 k o = bnd (prs (tkk B) f 3 (k + 1) (o + 1)) (fun k1 l1 => .inr (k1, l1 ++ [-13])) := if_pos ⟨c, c5⟩
      rw [hpr] at hF hS
      have hpost : ∀ (S2 : SS) (v : Int), (-2147483648 ≤ v ∧ v ≤ 2147483647) → (∀ v2 : Int, v2 = (if v = 0 then 1 else 0) → Q (some (.int (iI v2))) (hp g sh (setF S2 96 21 (S2.1 96 21 - 1))) n) → G g mX10_not (7 * (5 - o) + 7) 0 0 23 [(0, gr g 96)] [.int (iI v)] (hp g sh S2) n 0 0 Q := by
        intro S2 v rv kq
        refine G_istore_n (pc := 23) (ls' := [(1, _), (0, _)]) dX10_not_23 (by decide) rfl ?_
        refine S_aload_n (pc := 24) dX10_not_24 rfl ?_
        refine G_dup (pc := 25) dX10_not_25 rfl ?_
        refine S_getI (pc := 26) dX10_not_26 fX10_196 (by assumption) rfl ?_
        refine G_iconst (pc := 29) dX10_not_29 ?_
        refine G_isub (pc := 30) dX10_not_30 ?_
        refine S_putI (pc := 31) dX10_not_31 fX10_196 (by assumption) rfl ⟨rfl, rfl⟩ ?_
        refine G_iload_n (pc := 34) dX10_not_34 rfl ?_
        refine G_if_ne (pc := 35) 42 dX10_not_35 rfl (by omega) (fun c35 => ?_) (fun c35 => ?_)
        · skip
          refine G_iconst (pc := 42) dX10_not_42 ?_
          refine G_iret (pc := 43) dX10_not_43 rfl (by decide) ?_
          first | exact kq _ (if_pos (by omega)).symm | exact kq _ (if_neg (by omega)).symm
        · skip
          refine G_iconst (pc := 38) dX10_not_38 ?_
          refine G_goto (pc := 39) 43 dX10_not_39 rfl ?_
          refine G_iret (pc := 43) dX10_not_43 rfl (by decide) ?_
          first | exact kq _ (if_pos (by omega)).symm | exact kq _ (if_neg (by omega)).symm
      refine S_aload_n (pc := 0) dX10_not_0 rfl ?_
      refine G_sipush (pc := 1) dX10_not_1 rfl ?_
      refine S_callV (pc := 4) (ci := 10) (d2 := 1) (mc2 := 0) (ms2 := 0) (As := [_]) dX10_not_4 kX10_isWord lkX10_240 (by assumption) rfl rfl rfl (Nat.le_of_ble_eq_true rfl) ⟨by(omega),by(decide)⟩ (by decide) ?_
      refine c_X10_isWordC h96 hC wco_not (by decide) (by decide) (fun _ => ?_) (fun z => absurd c z)
      · show G _ _ _ _ _ _ _ _ _ _ _ _ _
        refine G_if_eq_f (pc := 7) 44 dX10_not_7 rfl (by decide) (by decide) ?_
        refine S_aload_n (pc := 10) dX10_not_10 rfl ?_
        refine S_callV (pc := 11) (ci := 10) (d2 := 3) (mc2 := 0) (ms2 := 0) (As := []) dX10_not_11 kX10_opens lkX10_223 (by assumption) rfl rfl rfl (Nat.le_of_ble_eq_true rfl) ⟨by(omega),by(decide)⟩ (by decide) ?_
        refine c_X10_opensC hX hC ho (by omega) (fun _ S1 r1 r2 => ?_) (fun z => absurd z (by omega))
        · show G _ _ _ _ _ _ _ _ _ _ _ _ _
          refine G_if_ne_t (pc := 14) 19 dX10_not_14 rfl (by decide) (by decide) ?_
          refine S_aload_n (pc := 19) dX10_not_19 rfl ?_
          refine S_callV (pc := 20) (ci := 10) (d2 := (7*(5-(o+1))+7)) (mc2 := 0) (ms2 := 0) (As := []) dX10_not_20 kX10_not lkX10_243 (by assumption) rfl rfl rfl (Nat.le_of_ble_eq_true rfl) ⟨by(omega),by(decide)⟩ (by decide) ?_
          refine HN (k + 1) (o + 1) S1 n _ (by omega) (by omega) (by omega) (MtY_gr r1 hY) r2 (fun kf S2 v e q1 q2 qv => ?_) (fun k1 l1 v1 S2 e q1 q2 qk qv => ?_)
          · show G _ _ _ _ _ _ _ _ _ _ _ _ _
            first
              | exact hpost S2 v qv (fun v2 hv2 => hF kf _ v2 (by rw [e]; rfl) (GrS_F (GrS_tr r1 q1) (by decide)) (MtF_21 q2) (by rw [hv2]; split <;> omega))
              | exact hpost S2 v1 qv.2 (fun v2 hv2 => hS k1 (l1 ++ [-13]) v2 _ (by rw [e]; rfl) (GrS_F (GrS_tr r1 q1) (by decide)) (MtC_21 q2 (by rw [q2.2.1]; omega)) (by omega) (by rw [hv2]; exact Val_not qv))
          · show G _ _ _ _ _ _ _ _ _ _ _ _ _
            first
              | exact hpost S2 v qv (fun v2 hv2 => hF kf _ v2 (by rw [e]; rfl) (GrS_F (GrS_tr r1 q1) (by decide)) (MtF_21 q2) (by rw [hv2]; split <;> omega))
              | exact hpost S2 v1 qv.2 (fun v2 hv2 => hS k1 (l1 ++ [-13]) v2 _ (by rw [e]; rfl) (GrS_F (GrS_tr r1 q1) (by decide)) (MtC_21 q2 (by rw [q2.2.1]; omega)) (by omega) (by rw [hv2]; exact Val_not qv))
    · have hpr : prs (tkk B) (f + 1) 3 k o = bnd (prs (tkk B) f 2 k o) _ := if_neg (fun z => c5 z.2)
      have hf3 : ∃ f3, f = f3 + 3 := ⟨f - 3, by omega⟩
      obtain ⟨f3, ef⟩ := hf3
      have h0 : prs (tkk B) (f3 + 1) 0 k o = .inl k := (if_neg (by omega)).trans ((if_neg (by omega)).trans ((if_neg (by omega)).trans (if_neg (by omega))))
      have h1 : prs (tkk B) (f3 + 2) 1 k o = .inl k := by show bnd (prs (tkk B) (f3 + 1) 0 k o) _ = _; rw [h0]; rfl
      have h2 : prs (tkk B) f 2 k o = .inl k := by rw [ef]; show bnd (prs (tkk B) (f3 + 2) 1 k o) _ = _; rw [h1]; rfl
      refine S_aload_n (pc := 0) dX10_not_0 rfl ?_
      refine G_sipush (pc := 1) dX10_not_1 rfl ?_
      refine S_callV (pc := 4) (ci := 10) (d2 := 1) (mc2 := 0) (ms2 := 0) (As := [_]) dX10_not_4 kX10_isWord lkX10_240 (by assumption) rfl rfl rfl (Nat.le_of_ble_eq_true rfl) ⟨by(omega),by(decide)⟩ (by decide) ?_
      refine c_X10_isWordC h96 hC wco_not (by decide) (by decide) (fun _ => ?_) (fun z => absurd c z)
      · show G _ _ _ _ _ _ _ _ _ _ _ _ _
        refine G_if_eq_f (pc := 7) 44 dX10_not_7 rfl (by decide) (by decide) ?_
        refine S_aload_n (pc := 10) dX10_not_10 rfl ?_
        refine S_callV (pc := 11) (ci := 10) (d2 := 3) (mc2 := 0) (ms2 := 0) (As := []) dX10_not_11 kX10_opens lkX10_223 (by assumption) rfl rfl rfl (Nat.le_of_ble_eq_true rfl) ⟨by(omega),by(decide)⟩ (by decide) ?_
        refine c_X10_opensC hX hC ho (by omega) (fun z => absurd z c5) (fun _ S1 r1 r2 => ?_)
        · show G _ _ _ _ _ _ _ _ _ _ _ _ _
          refine G_if_ne_f (pc := 14) 19 dX10_not_14 rfl (by decide) (by decide) ?_
          refine G_iconst (pc := 17) dX10_not_17 ?_
          refine G_iret (pc := 18) dX10_not_18 rfl (by decide) ?_
          exact hF k S1 0 (by rw [hpr, h2]; rfl) r1 r2 (by decide)
  · have hpr : prs (tkk B) (f + 1) 3 k o = bnd (prs (tkk B) f 2 k o) (fun k1 l1 => if tkk B k1 = 60 then bnd (prs (tkk B) f 2 (k1 + 1) o) (fun k2 l2 => .inr (k2, l1 ++ (l2 ++ [-14]))) else if tkk B k1 = 61 then bnd (prs (tkk B) f 2 (k1 + 1) o) (fun k2 l2 => .inr (k2, l1 ++ (l2 ++ [-15]))) else .inr (k1, l1)) := if_neg (fun z => c z.1)
    rw [hpr] at hF hS
    have Kf : ∀ (kf : Nat) (S1 : SS) (v : Int), prs (tkk B) f 2 k o = .inl kf → GrS S S1 → MtF S1 (tka N B kf) → (-2147483648 ≤ v ∧ v ≤ 2147483647) → G g mX10_not (7 * (5 - o) + 7) 0 0 49 [(1, .int (iI v)), (0, gr g 96)] [] (hp g sh S1) n 0 0 Q := by
      intro kf S1 v e r1 r2 rv
      refine S_aload_n (pc := 49) dX10_not_49 rfl ?_
      refine G_bipush (pc := 50) dX10_not_50 rfl ?_
      refine S_callV (pc := 52) (ci := 10) (d2 := 1) (mc2 := 0) (ms2 := 0) (As := [_]) dX10_not_52 kX10_isSign lkX10_220 (by assumption) rfl rfl rfl (Nat.le_of_ble_eq_true rfl) ⟨by(omega),by(decide)⟩ (by decide) ?_
      refine c_X10_isSignF h96 r2 ?_
      show G _ _ _ _ _ _ _ _ _ _ _ _ _
      refine G_if_ne_f (pc := 55) 69 dX10_not_55 rfl (by omega) (by decide) ?_
      refine S_aload_n (pc := 58) dX10_not_58 rfl ?_
      refine G_bipush (pc := 59) dX10_not_59 rfl ?_
      refine S_callV (pc := 61) (ci := 10) (d2 := 1) (mc2 := 0) (ms2 := 0) (As := [_]) dX10_not_61 kX10_isSign lkX10_220 (by assumption) rfl rfl rfl (Nat.le_of_ble_eq_true rfl) ⟨by(omega),by(decide)⟩ (by decide) ?_
      refine c_X10_isSignF h96 r2 ?_
      show G _ _ _ _ _ _ _ _ _ _ _ _ _
      refine G_if_ne_f (pc := 64) 69 dX10_not_64 rfl (by omega) (by decide) ?_
      refine G_iload_n (pc := 67) dX10_not_67 rfl ?_
      refine G_iret (pc := 68) dX10_not_68 rfl (by decide) ?_
      exact hF kf S1 v (by rw [e]; rfl) r1 r2 rv
    have Ks : ∀ (k1 : Nat) (l1 : List Int) (v1 : Int) (S1 : SS), prs (tkk B) f 2 k o = .inr (k1, l1) → GrS S S1 → MtC S1 N B k1 o → (k ≤ k1 ∧ (k1 : Int) ≤ N) → Val env l1 v1 → G g mX10_not (7 * (5 - o) + 7) 0 0 49 [(1, .int (iI v1)), (0, gr g 96)] [] (hp g sh S1) n 0 0 Q := by
      intro k1 l1 v1 S1 e r1 r2 rk rv
      rw [e] at hF hS
      have rvb := rv.2
      have Y1 := MtY_gr r1 hY
      have X1 := Y1.1
      by_cases d1 : tkk B k1 = 60
      · have hkN := tk_in hB (k := k1) (by omega)
        have hw : S1.1 96 19 = 60 := ((TokR_sign (s := 60) r2.2.2.1 (by decide)).mpr d1).2
        have hz : ∀ a b : Int, of2 (-14) a b = (if a < b then 1 else 0) := fun a b => rfl
        have hpr2 : ∀ x : PR, bnd (prs (tkk B) f 2 (k1 + 1) o) (fun k2 l2 => .inr (k2, l1 ++ (l2 ++ [-14]))) = x → bnd (.inr (k1, l1)) (fun k1 l1 => if tkk B k1 = 60 then bnd (prs (tkk B) f 2 (k1 + 1) o) (fun k2 l2 => .inr (k2, l1 ++ (l2 ++ [-14]))) else if tkk B k1 = 61 then bnd (prs (tkk B) f 2 (k1 + 1) o) (fun k2 l2 => .inr (k2, l1 ++ (l2 ++ [-15]))) else .inr (k1, l1)) = x := fun x hx => (if_pos d1).trans hx
        refine S_aload_n (pc := 49) dX10_not_49 rfl ?_
        refine G_bipush (pc := 50) dX10_not_50 rfl ?_
        refine S_callV (pc := 52) (ci := 10) (d2 := 1) (mc2 := 0) (ms2 := 0) (As := [_]) dX10_not_52 kX10_isSign lkX10_220 (by assumption) rfl rfl rfl (Nat.le_of_ble_eq_true rfl) ⟨by(omega),by(decide)⟩ (by decide) ?_
        refine c_X10_isSignC h96 r2 (by decide) (fun _ => ?_) (fun z => absurd d1 z)
        · show G _ _ _ _ _ _ _ _ _ _ _ _ _
          refine G_if_ne_t (pc := 55) 69 dX10_not_55 rfl (by decide) (by decide) ?_
          refine S_aload_n (pc := 69) dX10_not_69 rfl ?_
          refine S_getI (pc := 70) dX10_not_70 fX10_186 (by assumption) rfl ?_
          rw [hw]
          refine G_bipush (pc := 73) dX10_not_73 rfl ?_
          refine G_icmp_ne_f (pc := 75) 82 dX10_not_75 rfl (by omega) (by decide) ?_
          refine G_iconst (pc := 78) dX10_not_78 ?_
          refine G_goto (pc := 79) 83 dX10_not_79 rfl ?_
          refine G_istore_n (pc := 83) (ls' := [(2, _), (1, _), (0, _)]) dX10_not_83 (by decide) rfl ?_
          refine S_aload_n (pc := 84) dX10_not_84 rfl ?_
          refine S_callV (pc := 85) (ci := 10) (d2 := 2) (mc2 := 0) (ms2 := 0) (As := []) dX10_not_85 kX10_next lkX10_202 (by assumption) rfl rfl rfl (Nat.le_of_ble_eq_true rfl) ⟨by(omega),by(decide)⟩ (by decide) ?_
          refine c_X10_nextC X1 r2 (by omega) (fun S2 q1 q2 => ?_)
          · show G _ _ _ _ _ _ _ _ _ _ _ _ _
            refine S_aload_n (pc := 88) dX10_not_88 rfl ?_
            refine S_callV (pc := 89) (ci := 10) (d2 := (7*(5-o)+6)) (mc2 := 0) (ms2 := 0) (As := []) dX10_not_89 kX10_added lkX10_246 (by assumption) rfl rfl rfl (Nat.le_of_ble_eq_true rfl) ⟨by(omega),by(decide)⟩ (by decide) ?_
            refine H0 (k1 + 1) o S2 n _ (by omega) ho (by omega) (MtY_gr q1 Y1) q2 (fun kf S3 v e2 p1 p2 pv => ?_) (fun k2 l2 v2 S3 e2 p1 p2 pk pv => ?_)
            · show G _ _ _ _ _ _ _ _ _ _ _ _ _
              have pvb := pv.2
              refine G_istore_n (pc := 92) (ls' := [(3, _), (2, _), (1, _), (0, _)]) dX10_not_92 (by decide) rfl ?_
              refine G_iload_n (pc := 93) dX10_not_93 rfl ?_
              refine G_if_eq_f (pc := 94) 105 dX10_not_94 rfl (by omega) (by decide) ?_
              refine G_iload_n (pc := 97) dX10_not_97 rfl ?_
              refine G_iload_n (pc := 98) dX10_not_98 rfl ?_
              refine G_icmp_ge (pc := 99) 114 dX10_not_99 rfl (by omega) (fun c99 => ?_) (fun c99 => ?_)
              · skip
                refine G_iconst (pc := 114) dX10_not_114 ?_
                refine G_iret (pc := 115) dX10_not_115 rfl (by decide) ?_
                first
                  | exact hF kf S3 _ (hpr2 _ (by rw [e2]; rfl)) (GrS_tr (GrS_tr r1 q1) p1) p2 (by omega)
                  | exact hS k2 (l1 ++ (l2 ++ [-14])) _ S3 (hpr2 _ (by rw [e2]; rfl)) (GrS_tr (GrS_tr r1 q1) p1) p2 (by omega) (Val_cast (Val_step (s := -14) (by omega) rv pv) ((hz v1 v2).trans (if_pos (by omega))))
                  | exact hS k2 (l1 ++ (l2 ++ [-14])) _ S3 (hpr2 _ (by rw [e2]; rfl)) (GrS_tr (GrS_tr r1 q1) p1) p2 (by omega) (Val_cast (Val_step (s := -14) (by omega) rv pv) ((hz v1 v2).trans (if_neg (by omega))))
              · skip
                refine G_goto (pc := 102) 110 dX10_not_102 rfl ?_
                refine G_iconst (pc := 110) dX10_not_110 ?_
                refine G_goto (pc := 111) 115 dX10_not_111 rfl ?_
                refine G_iret (pc := 115) dX10_not_115 rfl (by decide) ?_
                first
                  | exact hF kf S3 _ (hpr2 _ (by rw [e2]; rfl)) (GrS_tr (GrS_tr r1 q1) p1) p2 (by omega)
                  | exact hS k2 (l1 ++ (l2 ++ [-14])) _ S3 (hpr2 _ (by rw [e2]; rfl)) (GrS_tr (GrS_tr r1 q1) p1) p2 (by omega) (Val_cast (Val_step (s := -14) (by omega) rv pv) ((hz v1 v2).trans (if_pos (by omega))))
                  | exact hS k2 (l1 ++ (l2 ++ [-14])) _ S3 (hpr2 _ (by rw [e2]; rfl)) (GrS_tr (GrS_tr r1 q1) p1) p2 (by omega) (Val_cast (Val_step (s := -14) (by omega) rv pv) ((hz v1 v2).trans (if_neg (by omega))))
            · show G _ _ _ _ _ _ _ _ _ _ _ _ _
              have pvb := pv.2
              refine G_istore_n (pc := 92) (ls' := [(3, _), (2, _), (1, _), (0, _)]) dX10_not_92 (by decide) rfl ?_
              refine G_iload_n (pc := 93) dX10_not_93 rfl ?_
              refine G_if_eq_f (pc := 94) 105 dX10_not_94 rfl (by omega) (by decide) ?_
              refine G_iload_n (pc := 97) dX10_not_97 rfl ?_
              refine G_iload_n (pc := 98) dX10_not_98 rfl ?_
              refine G_icmp_ge (pc := 99) 114 dX10_not_99 rfl (by omega) (fun c99 => ?_) (fun c99 => ?_)
              · skip
                refine G_iconst (pc := 114) dX10_not_114 ?_
                refine G_iret (pc := 115) dX10_not_115 rfl (by decide) ?_
                first
                  | exact hF kf S3 _ (hpr2 _ (by rw [e2]; rfl)) (GrS_tr (GrS_tr r1 q1) p1) p2 (by omega)
                  | exact hS k2 (l1 ++ (l2 ++ [-14])) _ S3 (hpr2 _ (by rw [e2]; rfl)) (GrS_tr (GrS_tr r1 q1) p1) p2 (by omega) (Val_cast (Val_step (s := -14) (by omega) rv pv) ((hz v1 v2).trans (if_pos (by omega))))
                  | exact hS k2 (l1 ++ (l2 ++ [-14])) _ S3 (hpr2 _ (by rw [e2]; rfl)) (GrS_tr (GrS_tr r1 q1) p1) p2 (by omega) (Val_cast (Val_step (s := -14) (by omega) rv pv) ((hz v1 v2).trans (if_neg (by omega))))
              · skip
                refine G_goto (pc := 102) 110 dX10_not_102 rfl ?_
                refine G_iconst (pc := 110) dX10_not_110 ?_
                refine G_goto (pc := 111) 115 dX10_not_111 rfl ?_
                refine G_iret (pc := 115) dX10_not_115 rfl (by decide) ?_
                first
                  | exact hF kf S3 _ (hpr2 _ (by rw [e2]; rfl)) (GrS_tr (GrS_tr r1 q1) p1) p2 (by omega)
                  | exact hS k2 (l1 ++ (l2 ++ [-14])) _ S3 (hpr2 _ (by rw [e2]; rfl)) (GrS_tr (GrS_tr r1 q1) p1) p2 (by omega) (Val_cast (Val_step (s := -14) (by omega) rv pv) ((hz v1 v2).trans (if_pos (by omega))))
                  | exact hS k2 (l1 ++ (l2 ++ [-14])) _ S3 (hpr2 _ (by rw [e2]; rfl)) (GrS_tr (GrS_tr r1 q1) p1) p2 (by omega) (Val_cast (Val_step (s := -14) (by omega) rv pv) ((hz v1 v2).trans (if_neg (by omega))))
      · by_cases d2 : tkk B k1 = 61
        · have hkN := tk_in hB (k := k1) (by omega)
          have hw : S1.1 96 19 = 61 := ((TokR_sign (s := 61) r2.2.2.1 (by decide)).mpr d2).2
          have hz : ∀ a b : Int, of2 (-15) a b = (if a = b then 1 else 0) := fun a b => rfl
          have hpr2 : ∀ x : PR, bnd (prs (tkk B) f 2 (k1 + 1) o) (fun k2 l2 => .inr (k2, l1 ++ (l2 ++ [-15]))) = x → bnd (.inr (k1, l1)) (fun k1 l1 => if tkk B k1 = 60 then bnd (prs (tkk B) f 2 (k1 + 1) o) (fun k2 l2 => .inr (k2, l1 ++ (l2 ++ [-14]))) else if tkk B k1 = 61 then bnd (prs (tkk B) f 2 (k1 + 1) o) (fun k2 l2 => .inr (k2, l1 ++ (l2 ++ [-15]))) else .inr (k1, l1)) = x := fun x hx => ((if_neg d1).trans (if_pos d2)).trans hx
          refine S_aload_n (pc := 49) dX10_not_49 rfl ?_
          refine G_bipush (pc := 50) dX10_not_50 rfl ?_
          refine S_callV (pc := 52) (ci := 10) (d2 := 1) (mc2 := 0) (ms2 := 0) (As := [_]) dX10_not_52 kX10_isSign lkX10_220 (by assumption) rfl rfl rfl (Nat.le_of_ble_eq_true rfl) ⟨by(omega),by(decide)⟩ (by decide) ?_
          refine c_X10_isSignC h96 r2 (by decide) (fun z => absurd z d1) (fun _ => ?_)
          · show G _ _ _ _ _ _ _ _ _ _ _ _ _
            refine G_if_ne_f (pc := 55) 69 dX10_not_55 rfl (by decide) (by decide) ?_
            refine S_aload_n (pc := 58) dX10_not_58 rfl ?_
            refine G_bipush (pc := 59) dX10_not_59 rfl ?_
            refine S_callV (pc := 61) (ci := 10) (d2 := 1) (mc2 := 0) (ms2 := 0) (As := [_]) dX10_not_61 kX10_isSign lkX10_220 (by assumption) rfl rfl rfl (Nat.le_of_ble_eq_true rfl) ⟨by(omega),by(decide)⟩ (by decide) ?_
            refine c_X10_isSignC h96 r2 (by decide) (fun _ => ?_) (fun z => absurd d2 z)
            · show G _ _ _ _ _ _ _ _ _ _ _ _ _
              refine G_if_ne_t (pc := 64) 69 dX10_not_64 rfl (by decide) (by decide) ?_
              refine S_aload_n (pc := 69) dX10_not_69 rfl ?_
              refine S_getI (pc := 70) dX10_not_70 fX10_186 (by assumption) rfl ?_
              rw [hw]
              refine G_bipush (pc := 73) dX10_not_73 rfl ?_
              refine G_icmp_ne_t (pc := 75) 82 dX10_not_75 rfl (by omega) (by decide) ?_
              refine G_iconst (pc := 82) dX10_not_82 ?_
              refine G_istore_n (pc := 83) (ls' := [(2, _), (1, _), (0, _)]) dX10_not_83 (by decide) rfl ?_
              refine S_aload_n (pc := 84) dX10_not_84 rfl ?_
              refine S_callV (pc := 85) (ci := 10) (d2 := 2) (mc2 := 0) (ms2 := 0) (As := []) dX10_not_85 kX10_next lkX10_202 (by assumption) rfl rfl rfl (Nat.le_of_ble_eq_true rfl) ⟨by(omega),by(decide)⟩ (by decide) ?_
              refine c_X10_nextC X1 r2 (by omega) (fun S2 q1 q2 => ?_)
              · show G _ _ _ _ _ _ _ _ _ _ _ _ _
                refine S_aload_n (pc := 88) dX10_not_88 rfl ?_
                refine S_callV (pc := 89) (ci := 10) (d2 := (7*(5-o)+6)) (mc2 := 0) (ms2 := 0) (As := []) dX10_not_89 kX10_added lkX10_246 (by assumption) rfl rfl rfl (Nat.le_of_ble_eq_true rfl) ⟨by(omega),by(decide)⟩ (by decide) ?_
                refine H0 (k1 + 1) o S2 n _ (by omega) ho (by omega) (MtY_gr q1 Y1) q2 (fun kf S3 v e2 p1 p2 pv => ?_) (fun k2 l2 v2 S3 e2 p1 p2 pk pv => ?_)
                · show G _ _ _ _ _ _ _ _ _ _ _ _ _
                  have pvb := pv.2
                  refine G_istore_n (pc := 92) (ls' := [(3, _), (2, _), (1, _), (0, _)]) dX10_not_92 (by decide) rfl ?_
                  refine G_iload_n (pc := 93) dX10_not_93 rfl ?_
                  refine G_if_eq_t (pc := 94) 105 dX10_not_94 rfl (by omega) (by decide) ?_
                  refine G_iload_n (pc := 105) dX10_not_105 rfl ?_
                  refine G_iload_n (pc := 106) dX10_not_106 rfl ?_
                  refine G_icmp_ne (pc := 107) 114 dX10_not_107 rfl (by omega) (fun c107 => ?_) (fun c107 => ?_)
                  · skip
                    refine G_iconst (pc := 114) dX10_not_114 ?_
                    refine G_iret (pc := 115) dX10_not_115 rfl (by decide) ?_
                    first
                      | exact hF kf S3 _ (hpr2 _ (by rw [e2]; rfl)) (GrS_tr (GrS_tr r1 q1) p1) p2 (by omega)
                      | exact hS k2 (l1 ++ (l2 ++ [-15])) _ S3 (hpr2 _ (by rw [e2]; rfl)) (GrS_tr (GrS_tr r1 q1) p1) p2 (by omega) (Val_cast (Val_step (s := -15) (by omega) rv pv) ((hz v1 v2).trans (if_pos (by omega))))
                      | exact hS k2 (l1 ++ (l2 ++ [-15])) _ S3 (hpr2 _ (by rw [e2]; rfl)) (GrS_tr (GrS_tr r1 q1) p1) p2 (by omega) (Val_cast (Val_step (s := -15) (by omega) rv pv) ((hz v1 v2).trans (if_neg (by omega))))
                  · skip
                    refine G_iconst (pc := 110) dX10_not_110 ?_
                    refine G_goto (pc := 111) 115 dX10_not_111 rfl ?_
                    refine G_iret (pc := 115) dX10_not_115 rfl (by decide) ?_
                    first
                      | exact hF kf S3 _ (hpr2 _ (by rw [e2]; rfl)) (GrS_tr (GrS_tr r1 q1) p1) p2 (by omega)
                      | exact hS k2 (l1 ++ (l2 ++ [-15])) _ S3 (hpr2 _ (by rw [e2]; rfl)) (GrS_tr (GrS_tr r1 q1) p1) p2 (by omega) (Val_cast (Val_step (s := -15) (by omega) rv pv) ((hz v1 v2).trans (if_pos (by omega))))
                      | exact hS k2 (l1 ++ (l2 ++ [-15])) _ S3 (hpr2 _ (by rw [e2]; rfl)) (GrS_tr (GrS_tr r1 q1) p1) p2 (by omega) (Val_cast (Val_step (s := -15) (by omega) rv pv) ((hz v1 v2).trans (if_neg (by omega))))
                · show G _ _ _ _ _ _ _ _ _ _ _ _ _
                  have pvb := pv.2
                  refine G_istore_n (pc := 92) (ls' := [(3, _), (2, _), (1, _), (0, _)]) dX10_not_92 (by decide) rfl ?_
                  refine G_iload_n (pc := 93) dX10_not_93 rfl ?_
                  refine G_if_eq_t (pc := 94) 105 dX10_not_94 rfl (by omega) (by decide) ?_
                  refine G_iload_n (pc := 105) dX10_not_105 rfl ?_
                  refine G_iload_n (pc := 106) dX10_not_106 rfl ?_
                  refine G_icmp_ne (pc := 107) 114 dX10_not_107 rfl (by omega) (fun c107 => ?_) (fun c107 => ?_)
                  · skip
                    refine G_iconst (pc := 114) dX10_not_114 ?_
                    refine G_iret (pc := 115) dX10_not_115 rfl (by decide) ?_
                    first
                      | exact hF kf S3 _ (hpr2 _ (by rw [e2]; rfl)) (GrS_tr (GrS_tr r1 q1) p1) p2 (by omega)
                      | exact hS k2 (l1 ++ (l2 ++ [-15])) _ S3 (hpr2 _ (by rw [e2]; rfl)) (GrS_tr (GrS_tr r1 q1) p1) p2 (by omega) (Val_cast (Val_step (s := -15) (by omega) rv pv) ((hz v1 v2).trans (if_pos (by omega))))
                      | exact hS k2 (l1 ++ (l2 ++ [-15])) _ S3 (hpr2 _ (by rw [e2]; rfl)) (GrS_tr (GrS_tr r1 q1) p1) p2 (by omega) (Val_cast (Val_step (s := -15) (by omega) rv pv) ((hz v1 v2).trans (if_neg (by omega))))
                  · skip
                    refine G_iconst (pc := 110) dX10_not_110 ?_
                    refine G_goto (pc := 111) 115 dX10_not_111 rfl ?_
                    refine G_iret (pc := 115) dX10_not_115 rfl (by decide) ?_
                    first
                      | exact hF kf S3 _ (hpr2 _ (by rw [e2]; rfl)) (GrS_tr (GrS_tr r1 q1) p1) p2 (by omega)
                      | exact hS k2 (l1 ++ (l2 ++ [-15])) _ S3 (hpr2 _ (by rw [e2]; rfl)) (GrS_tr (GrS_tr r1 q1) p1) p2 (by omega) (Val_cast (Val_step (s := -15) (by omega) rv pv) ((hz v1 v2).trans (if_pos (by omega))))
                      | exact hS k2 (l1 ++ (l2 ++ [-15])) _ S3 (hpr2 _ (by rw [e2]; rfl)) (GrS_tr (GrS_tr r1 q1) p1) p2 (by omega) (Val_cast (Val_step (s := -15) (by omega) rv pv) ((hz v1 v2).trans (if_neg (by omega))))
        · skip
          refine S_aload_n (pc := 49) dX10_not_49 rfl ?_
          refine G_bipush (pc := 50) dX10_not_50 rfl ?_
          refine S_callV (pc := 52) (ci := 10) (d2 := 1) (mc2 := 0) (ms2 := 0) (As := [_]) dX10_not_52 kX10_isSign lkX10_220 (by assumption) rfl rfl rfl (Nat.le_of_ble_eq_true rfl) ⟨by(omega),by(decide)⟩ (by decide) ?_
          refine c_X10_isSignC h96 r2 (by decide) (fun z => absurd z d1) (fun _ => ?_)
          · show G _ _ _ _ _ _ _ _ _ _ _ _ _
            refine G_if_ne_f (pc := 55) 69 dX10_not_55 rfl (by decide) (by decide) ?_
            refine S_aload_n (pc := 58) dX10_not_58 rfl ?_
            refine G_bipush (pc := 59) dX10_not_59 rfl ?_
            refine S_callV (pc := 61) (ci := 10) (d2 := 1) (mc2 := 0) (ms2 := 0) (As := [_]) dX10_not_61 kX10_isSign lkX10_220 (by assumption) rfl rfl rfl (Nat.le_of_ble_eq_true rfl) ⟨by(omega),by(decide)⟩ (by decide) ?_
            refine c_X10_isSignC h96 r2 (by decide) (fun z => absurd z d2) (fun _ => ?_)
            · show G _ _ _ _ _ _ _ _ _ _ _ _ _
              refine G_if_ne_f (pc := 64) 69 dX10_not_64 rfl (by decide) (by decide) ?_
              refine G_iload_n (pc := 67) dX10_not_67 rfl ?_
              refine G_iret (pc := 68) dX10_not_68 rfl (by decide) ?_
              exact hS k1 l1 v1 S1 ((if_neg d1).trans (if_neg d2)) r1 r2 rk rv
    refine S_aload_n (pc := 0) dX10_not_0 rfl ?_
    refine G_sipush (pc := 1) dX10_not_1 rfl ?_
    refine S_callV (pc := 4) (ci := 10) (d2 := 1) (mc2 := 0) (ms2 := 0) (As := [_]) dX10_not_4 kX10_isWord lkX10_240 (by assumption) rfl rfl rfl (Nat.le_of_ble_eq_true rfl) ⟨by(omega),by(decide)⟩ (by decide) ?_
    refine c_X10_isWordC h96 hC wco_not (by decide) (by decide) (fun z => absurd z c) (fun _ => ?_)
    · show G _ _ _ _ _ _ _ _ _ _ _ _ _
      refine G_if_eq_t (pc := 7) 44 dX10_not_7 rfl (by decide) (by decide) ?_
      refine S_aload_n (pc := 44) dX10_not_44 rfl ?_
      refine S_callV (pc := 45) (ci := 10) (d2 := (7*(5-o)+6)) (mc2 := 0) (ms2 := 0) (As := []) dX10_not_45 kX10_added lkX10_246 (by assumption) rfl rfl rfl (Nat.le_of_ble_eq_true rfl) ⟨by(omega),by(decide)⟩ (by decide) ?_
      refine H0 k o S n _ (by omega) ho hk hY hC (fun kf S1 v e r1 r2 rv => ?_) (fun k1 l1 v1 S1 e r1 r2 rk rv => ?_)
      · show G _ _ _ _ _ _ _ _ _ _ _ _ _
        refine G_istore_n (pc := 48) (ls' := [(1, _), (0, _)]) dX10_not_48 (by decide) rfl ?_
        first | exact Kf kf S1 v e r1 r2 rv | exact Ks k1 l1 v1 S1 e r1 r2 rk rv
      · show G _ _ _ _ _ _ _ _ _ _ _ _ _
        refine G_istore_n (pc := 48) (ls' := [(1, _), (0, _)]) dX10_not_48 (by decide) rfl ?_
        first | exact Kf kf S1 v e r1 r2 rv | exact Ks k1 l1 v1 S1 e r1 r2 rk rv
set_option maxRecDepth 100000 in
set_option maxHeartbeats 4000000 in
theorem st_one {g : GC} {sh : SH} {N : Int} {B env : Int → Int} {f : Nat} (H0 : GmC g sh N B env mX10_one 0 1 4 f) (HE : GmC g sh N B env mX10_either 5 6 9 f) : GmC g sh N B env mX10_one 0 1 4 (f + 1) := by
  intro k o S n Q hn ho hk hY hC hF hS
  have hC' := hC
  obtain ⟨b22, b21, hT, b18, b20⟩ := hC'
  have ht := TokR_t hT
  have h96 := hY.1.1
  have hX := hY.1
  have hB := hX.2.2.2.1
  refine GCall.of (by decide) (Nat.le_of_ble_eq_true rfl) (ls := [(0, _)]) rfl ?_
  by_cases c1 : tkk B k = 45
  · have hkN := tk_in hB (k := k) (by omega)
    by_cases c5 : o < 5
    · have hpr : prs (tkk B) (f + 1) 0 k o = bnd (prs (tkk B) f 0 (k + 1) (o + 1)) (fun k1 l1 => .inr (k1, l1 ++ [-19])) := if_pos ⟨c1, c5⟩
      rw [hpr] at hF hS
      refine G_iconst (pc := 0) dX10_one_0 ?_
      refine G_istore_n (pc := 1) (ls' := [(1, _), (0, _)]) dX10_one_1 (by decide) rfl ?_
      refine S_aload_n (pc := 2) dX10_one_2 rfl ?_
      refine G_bipush (pc := 3) dX10_one_3 rfl ?_
      refine S_callV (pc := 5) (ci := 10) (d2 := 1) (mc2 := 0) (ms2 := 0) (As := [_]) dX10_one_5 kX10_isSign lkX10_220 (by assumption) rfl rfl rfl (Nat.le_of_ble_eq_true rfl) ⟨by(omega),by(decide)⟩ (by decide) ?_
      refine c_X10_isSignC h96 hC (by decide) (fun _ => ?_) (fun z => absurd c1 z)
      · show G _ _ _ _ _ _ _ _ _ _ _ _ _
        refine G_if_eq_f (pc := 8) 37 dX10_one_8 rfl (by decide) (by decide) ?_
        refine S_aload_n (pc := 11) dX10_one_11 rfl ?_
        refine S_callV (pc := 12) (ci := 10) (d2 := 3) (mc2 := 0) (ms2 := 0) (As := []) dX10_one_12 kX10_opens lkX10_223 (by assumption) rfl rfl rfl (Nat.le_of_ble_eq_true rfl) ⟨by(omega),by(decide)⟩ (by decide) ?_
        refine c_X10_opensC hX hC ho (by omega) (fun _ S1 r1 r2 => ?_) (fun z => absurd z (by omega))
        · show G _ _ _ _ _ _ _ _ _ _ _ _ _
          refine G_if_eq_f (pc := 15) 160 dX10_one_15 rfl (by decide) (by decide) ?_
          refine S_aload_n (pc := 18) dX10_one_18 rfl ?_
          refine S_callV (pc := 19) (ci := 10) (d2 := (7*(5-(o+1))+4)) (mc2 := 0) (ms2 := 0) (As := []) dX10_one_19 kX10_one lkX10_227 (by assumption) rfl rfl rfl (Nat.le_of_ble_eq_true rfl) ⟨by(omega),by(decide)⟩ (by decide) ?_
          refine H0 (k + 1) (o + 1) S1 n _ (by omega) (by omega) (by omega) (MtY_gr r1 hY) r2 (fun kf S2 v e q1 q2 qv => ?_) (fun k1 l1 v1 S2 e q1 q2 qk qv => ?_)
          · show G _ _ _ _ _ _ _ _ _ _ _ _ _
            refine G_ineg (pc := 22) dX10_one_22 ?_
            refine G_istore_n (pc := 23) (ls' := [(1, _), (0, _)]) dX10_one_23 (by decide) rfl ?_
            refine S_aload_n (pc := 24) dX10_one_24 rfl ?_
            refine G_dup (pc := 25) dX10_one_25 rfl ?_
            refine S_getI (pc := 26) dX10_one_26 fX10_196 (by assumption) rfl ?_
            refine G_iconst (pc := 29) dX10_one_29 ?_
            refine G_isub (pc := 30) dX10_one_30 ?_
            refine S_putI (pc := 31) dX10_one_31 fX10_196 (by assumption) rfl ⟨rfl, rfl⟩ ?_
            refine G_goto (pc := 34) 160 dX10_one_34 rfl ?_
            refine G_iload_n (pc := 160) dX10_one_160 rfl ?_
            refine G_iret (pc := 161) dX10_one_161 rfl (by decide) ?_
            first
              | (rw [← iI_bw (z := -v)]; exact hF kf _ _ (by rw [e]; rfl) (GrS_F (GrS_tr r1 q1) (by decide)) (MtF_21 q2) bw_bd)
              | (rw [← iI_bw (z := -v1)]; exact hS k1 (l1 ++ [-19]) _ _ (by rw [e]; rfl) (GrS_F (GrS_tr r1 q1) (by decide)) (MtC_21 q2 (by rw [q2.2.1]; omega)) (by omega) (Val_neg qv))
          · show G _ _ _ _ _ _ _ _ _ _ _ _ _
            refine G_ineg (pc := 22) dX10_one_22 ?_
            refine G_istore_n (pc := 23) (ls' := [(1, _), (0, _)]) dX10_one_23 (by decide) rfl ?_
            refine S_aload_n (pc := 24) dX10_one_24 rfl ?_
            refine G_dup (pc := 25) dX10_one_25 rfl ?_
            refine S_getI (pc := 26) dX10_one_26 fX10_196 (by assumption) rfl ?_
            refine G_iconst (pc := 29) dX10_one_29 ?_
            refine G_isub (pc := 30) dX10_one_30 ?_
            refine S_putI (pc := 31) dX10_one_31 fX10_196 (by assumption) rfl ⟨rfl, rfl⟩ ?_
            refine G_goto (pc := 34) 160 dX10_one_34 rfl ?_
            refine G_iload_n (pc := 160) dX10_one_160 rfl ?_
            refine G_iret (pc := 161) dX10_one_161 rfl (by decide) ?_
            first
              | (rw [← iI_bw (z := -v)]; exact hF kf _ _ (by rw [e]; rfl) (GrS_F (GrS_tr r1 q1) (by decide)) (MtF_21 q2) bw_bd)
              | (rw [← iI_bw (z := -v1)]; exact hS k1 (l1 ++ [-19]) _ _ (by rw [e]; rfl) (GrS_F (GrS_tr r1 q1) (by decide)) (MtC_21 q2 (by rw [q2.2.1]; omega)) (by omega) (Val_neg qv))
    · have h0 : prs (tkk B) (f + 1) 0 k o = .inl k := (if_neg (by omega)).trans ((if_neg (by omega)).trans ((if_neg (by omega)).trans (if_neg (by omega))))
      refine G_iconst (pc := 0) dX10_one_0 ?_
      refine G_istore_n (pc := 1) (ls' := [(1, _), (0, _)]) dX10_one_1 (by decide) rfl ?_
      refine S_aload_n (pc := 2) dX10_one_2 rfl ?_
      refine G_bipush (pc := 3) dX10_one_3 rfl ?_
      refine S_callV (pc := 5) (ci := 10) (d2 := 1) (mc2 := 0) (ms2 := 0) (As := [_]) dX10_one_5 kX10_isSign lkX10_220 (by assumption) rfl rfl rfl (Nat.le_of_ble_eq_true rfl) ⟨by(omega),by(decide)⟩ (by decide) ?_
      refine c_X10_isSignC h96 hC (by decide) (fun _ => ?_) (fun z => absurd c1 z)
      · show G _ _ _ _ _ _ _ _ _ _ _ _ _
        refine G_if_eq_f (pc := 8) 37 dX10_one_8 rfl (by decide) (by decide) ?_
        refine S_aload_n (pc := 11) dX10_one_11 rfl ?_
        refine S_callV (pc := 12) (ci := 10) (d2 := 3) (mc2 := 0) (ms2 := 0) (As := []) dX10_one_12 kX10_opens lkX10_223 (by assumption) rfl rfl rfl (Nat.le_of_ble_eq_true rfl) ⟨by(omega),by(decide)⟩ (by decide) ?_
        refine c_X10_opensC hX hC ho (by omega) (fun z => absurd z c5) (fun _ S1 r1 r2 => ?_)
        · show G _ _ _ _ _ _ _ _ _ _ _ _ _
          refine G_if_eq_t (pc := 15) 160 dX10_one_15 rfl (by decide) (by decide) ?_
          refine G_iload_n (pc := 160) dX10_one_160 rfl ?_
          refine G_iret (pc := 161) dX10_one_161 rfl (by decide) ?_
          exact hF k S1 0 h0 r1 r2 (by decide)
  · by_cases c2 : tkk B k = 40
    · have hkN := tk_in hB (k := k) (by omega)
      by_cases c5 : o < 5
      · have hpr : prs (tkk B) (f + 1) 0 k o = bnd (prs (tkk B) f 5 (k + 1) (o + 1)) (fun k1 l1 => if tkk B k1 = 41 then .inr (k1 + 1, l1) else .inl k1) := (if_neg (fun z => c1 z.1)).trans (if_pos ⟨c2, c5⟩)
        rw [hpr] at hF hS
        have Kf : ∀ (kf : Nat) (S1 : SS) (v : Int), bnd (prs (tkk B) f 5 (k + 1) (o + 1)) (fun k1 l1 => if tkk B k1 = 41 then .inr (k1 + 1, l1) else .inl k1) = .inl kf → GrS S S1 → MtF S1 (tka N B kf) → (-2147483648 ≤ v ∧ v ≤ 2147483647) → G g mX10_one (7 * (5 - o) + 4) 0 0 71 [(1, .int (iI v)), (0, gr g 96)] [] (hp g sh S1) n 0 0 Q := by
          intro kf S1 v e r1 r2 rv
          have e22 : (setF S1 96 21 (S1.1 96 21 - 1)).1 96 22 = 1 := (MtF_21 r2).1
          refine S_aload_n (pc := 71) dX10_one_71 rfl ?_
          refine G_dup (pc := 72) dX10_one_72 rfl ?_
          refine S_getI (pc := 73) dX10_one_73 fX10_196 (by assumption) rfl ?_
          refine G_iconst (pc := 76) dX10_one_76 ?_
          refine G_isub (pc := 77) dX10_one_77 ?_
          refine S_putI (pc := 78) dX10_one_78 fX10_196 (by assumption) rfl ⟨rfl, rfl⟩ ?_
          refine S_aload_n (pc := 81) dX10_one_81 rfl ?_
          refine S_getI (pc := 82) dX10_one_82 fX10_189 (by assumption) rfl ?_
          rw [e22]
          refine G_if_ne_t (pc := 85) 160 dX10_one_85 rfl (by omega) (by decide) ?_
          refine G_iload_n (pc := 160) dX10_one_160 rfl ?_
          refine G_iret (pc := 161) dX10_one_161 rfl (by decide) ?_
          exact hF kf _ v e (GrS_F r1 (by decide)) (MtF_21 r2) rv
        have Kf0 : ∀ (kf : Nat) (S1 : SS) (v : Int), prs (tkk B) f 5 (k + 1) (o + 1) = .inl kf → GrS S S1 → MtF S1 (tka N B kf) → (-2147483648 ≤ v ∧ v ≤ 2147483647) → G g mX10_one (7 * (5 - o) + 4) 0 0 58 [(1, .int (iI v)), (0, gr g 96)] [] (hp g sh S1) n 0 0 Q := by
          intro kf S1 v e r1 r2 rv
          refine S_aload_n (pc := 58) dX10_one_58 rfl ?_
          refine G_bipush (pc := 59) dX10_one_59 rfl ?_
          refine S_callV (pc := 61) (ci := 10) (d2 := 1) (mc2 := 0) (ms2 := 0) (As := [_]) dX10_one_61 kX10_isSign lkX10_220 (by assumption) rfl rfl rfl (Nat.le_of_ble_eq_true rfl) ⟨by(omega),by(decide)⟩ (by decide) ?_
          refine c_X10_isSignF h96 r2 ?_
          show G _ _ _ _ _ _ _ _ _ _ _ _ _
          refine G_if_ne_f (pc := 64) 71 dX10_one_64 rfl (by omega) (by decide) ?_
          refine S_aload_n (pc := 67) dX10_one_67 rfl ?_
          refine S_callV (pc := 68) (ci := 10) (d2 := 1) (mc2 := 0) (ms2 := 0) (As := []) dX10_one_68 kX10_fail lkX10_199 (by assumption) rfl rfl rfl (Nat.le_of_ble_eq_true rfl) ⟨by(omega),by(decide)⟩ (by decide) ?_
          refine c_X10_failF h96 r2 ?_
          show G _ _ _ _ _ _ _ _ _ _ _ _ _
          exact Kf kf S1 v (by rw [e]; rfl) r1 r2 rv
        have Ks0 : ∀ (k1 : Nat) (l1 : List Int) (v1 : Int) (S1 : SS), prs (tkk B) f 5 (k + 1) (o + 1) = .inr (k1, l1) → GrS S S1 → MtC S1 N B k1 (o + 1) → (k + 1 ≤ k1 ∧ (k1 : Int) ≤ N) → Val env l1 v1 → G g mX10_one (7 * (5 - o) + 4) 0 0 58 [(1, .int (iI v1)), (0, gr g 96)] [] (hp g sh S1) n 0 0 Q := by
          intro k1 l1 v1 S1 e r1 r2 rk rv
          by_cases d1 : tkk B k1 = 41
          · have hkN1 := tk_in hB (k := k1) (by omega)
            have C2 : MtC (setF S1 96 21 (S1.1 96 21 - 1)) N B k1 o := MtC_21 r2 (by rw [r2.2.1]; omega)
            have X2 : MtX sh (setF S1 96 21 (S1.1 96 21 - 1)) N B := MtX_gr (GrS_F r1 (by decide)) hX
            have e22 := C2.1
            refine S_aload_n (pc := 58) dX10_one_58 rfl ?_
            refine G_bipush (pc := 59) dX10_one_59 rfl ?_
            refine S_callV (pc := 61) (ci := 10) (d2 := 1) (mc2 := 0) (ms2 := 0) (As := [_]) dX10_one_61 kX10_isSign lkX10_220 (by assumption) rfl rfl rfl (Nat.le_of_ble_eq_true rfl) ⟨by(omega),by(decide)⟩ (by decide) ?_
            refine c_X10_isSignC h96 r2 (by decide) (fun _ => ?_) (fun z => absurd d1 z)
            · show G _ _ _ _ _ _ _ _ _ _ _ _ _
              refine G_if_ne_t (pc := 64) 71 dX10_one_64 rfl (by decide) (by decide) ?_
              refine S_aload_n (pc := 71) dX10_one_71 rfl ?_
              refine G_dup (pc := 72) dX10_one_72 rfl ?_
              refine S_getI (pc := 73) dX10_one_73 fX10_196 (by assumption) rfl ?_
              refine G_iconst (pc := 76) dX10_one_76 ?_
              refine G_isub (pc := 77) dX10_one_77 ?_
              refine S_putI (pc := 78) dX10_one_78 fX10_196 (by assumption) rfl ⟨rfl, rfl⟩ ?_
              refine S_aload_n (pc := 81) dX10_one_81 rfl ?_
              refine S_getI (pc := 82) dX10_one_82 fX10_189 (by assumption) rfl ?_
              rw [e22]
              refine G_if_ne_f (pc := 85) 160 dX10_one_85 rfl (by omega) (by decide) ?_
              refine S_aload_n (pc := 88) dX10_one_88 rfl ?_
              refine S_callV (pc := 89) (ci := 10) (d2 := 2) (mc2 := 0) (ms2 := 0) (As := []) dX10_one_89 kX10_next lkX10_202 (by assumption) rfl rfl rfl (Nat.le_of_ble_eq_true rfl) ⟨by(omega),by(decide)⟩ (by decide) ?_
              refine c_X10_nextC X2 C2 (by omega) (fun S2 q1 q2 => ?_)
              · show G _ _ _ _ _ _ _ _ _ _ _ _ _
                refine G_goto (pc := 92) 160 dX10_one_92 rfl ?_
                refine G_iload_n (pc := 160) dX10_one_160 rfl ?_
                refine G_iret (pc := 161) dX10_one_161 rfl (by decide) ?_
                exact hS (k1 + 1) l1 v1 S2 (by rw [e]; exact if_pos d1) (GrS_tr (GrS_F r1 (by decide)) q1) q2 (by omega) rv
          · skip
            refine S_aload_n (pc := 58) dX10_one_58 rfl ?_
            refine G_bipush (pc := 59) dX10_one_59 rfl ?_
            refine S_callV (pc := 61) (ci := 10) (d2 := 1) (mc2 := 0) (ms2 := 0) (As := [_]) dX10_one_61 kX10_isSign lkX10_220 (by assumption) rfl rfl rfl (Nat.le_of_ble_eq_true rfl) ⟨by(omega),by(decide)⟩ (by decide) ?_
            refine c_X10_isSignC h96 r2 (by decide) (fun z => absurd z d1) (fun _ => ?_)
            · show G _ _ _ _ _ _ _ _ _ _ _ _ _
              refine G_if_ne_f (pc := 64) 71 dX10_one_64 rfl (by decide) (by decide) ?_
              refine S_aload_n (pc := 67) dX10_one_67 rfl ?_
              refine S_callV (pc := 68) (ci := 10) (d2 := 1) (mc2 := 0) (ms2 := 0) (As := []) dX10_one_68 kX10_fail lkX10_199 (by assumption) rfl rfl rfl (Nat.le_of_ble_eq_true rfl) ⟨by(omega),by(decide)⟩ (by decide) ?_
              refine c_X10_failC h96 r2 (fun S2 q1 q2 => ?_)
              · show G _ _ _ _ _ _ _ _ _ _ _ _ _
                exact Kf k1 S2 v1 (by rw [e]; exact if_neg d1) (GrS_tr r1 q1) q2 rv.2
        refine G_iconst (pc := 0) dX10_one_0 ?_
        refine G_istore_n (pc := 1) (ls' := [(1, _), (0, _)]) dX10_one_1 (by decide) rfl ?_
        refine S_aload_n (pc := 2) dX10_one_2 rfl ?_
        refine G_bipush (pc := 3) dX10_one_3 rfl ?_
        refine S_callV (pc := 5) (ci := 10) (d2 := 1) (mc2 := 0) (ms2 := 0) (As := [_]) dX10_one_5 kX10_isSign lkX10_220 (by assumption) rfl rfl rfl (Nat.le_of_ble_eq_true rfl) ⟨by(omega),by(decide)⟩ (by decide) ?_
        refine c_X10_isSignC h96 hC (by decide) (fun z => absurd z c1) (fun _ => ?_)
        · show G _ _ _ _ _ _ _ _ _ _ _ _ _
          refine G_if_eq_t (pc := 8) 37 dX10_one_8 rfl (by decide) (by decide) ?_
          refine S_aload_n (pc := 37) dX10_one_37 rfl ?_
          refine G_bipush (pc := 38) dX10_one_38 rfl ?_
          refine S_callV (pc := 40) (ci := 10) (d2 := 1) (mc2 := 0) (ms2 := 0) (As := [_]) dX10_one_40 kX10_isSign lkX10_220 (by assumption) rfl rfl rfl (Nat.le_of_ble_eq_true rfl) ⟨by(omega),by(decide)⟩ (by decide) ?_
          refine c_X10_isSignC h96 hC (by decide) (fun _ => ?_) (fun z => absurd c2 z)
          · show G _ _ _ _ _ _ _ _ _ _ _ _ _
            refine G_if_eq_f (pc := 43) 95 dX10_one_43 rfl (by decide) (by decide) ?_
            refine S_aload_n (pc := 46) dX10_one_46 rfl ?_
            refine S_callV (pc := 47) (ci := 10) (d2 := 3) (mc2 := 0) (ms2 := 0) (As := []) dX10_one_47 kX10_opens lkX10_223 (by assumption) rfl rfl rfl (Nat.le_of_ble_eq_true rfl) ⟨by(omega),by(decide)⟩ (by decide) ?_
            refine c_X10_opensC hX hC ho (by omega) (fun _ S1 r1 r2 => ?_) (fun z => absurd z (by omega))
            · show G _ _ _ _ _ _ _ _ _ _ _ _ _
              refine G_if_eq_f (pc := 50) 160 dX10_one_50 rfl (by decide) (by decide) ?_
              refine S_aload_n (pc := 53) dX10_one_53 rfl ?_
              refine S_callV (pc := 54) (ci := 10) (d2 := (7*(5-(o+1))+9)) (mc2 := 0) (ms2 := 0) (As := []) dX10_one_54 kX10_either lkX10_231 (by assumption) rfl rfl rfl (Nat.le_of_ble_eq_true rfl) ⟨by(omega),by(decide)⟩ (by decide) ?_
              refine HE (k + 1) (o + 1) S1 n _ (by omega) (by omega) (by omega) (MtY_gr r1 hY) r2 (fun kf S2 v e q1 q2 qv => ?_) (fun k1 l1 v1 S2 e q1 q2 qk qv => ?_)
              · show G _ _ _ _ _ _ _ _ _ _ _ _ _
                refine G_istore_n (pc := 57) (ls' := [(1, _), (0, _)]) dX10_one_57 (by decide) rfl ?_
                first | exact Kf0 kf S2 v e (GrS_tr r1 q1) q2 qv | exact Ks0 k1 l1 v1 S2 e (GrS_tr r1 q1) q2 qk qv
              · show G _ _ _ _ _ _ _ _ _ _ _ _ _
                refine G_istore_n (pc := 57) (ls' := [(1, _), (0, _)]) dX10_one_57 (by decide) rfl ?_
                first | exact Kf0 kf S2 v e (GrS_tr r1 q1) q2 qv | exact Ks0 k1 l1 v1 S2 e (GrS_tr r1 q1) q2 qk qv
      · have h0 : prs (tkk B) (f + 1) 0 k o = .inl k := (if_neg (by omega)).trans ((if_neg (by omega)).trans ((if_neg (by omega)).trans (if_neg (by omega))))
        refine G_iconst (pc := 0) dX10_one_0 ?_
        refine G_istore_n (pc := 1) (ls' := [(1, _), (0, _)]) dX10_one_1 (by decide) rfl ?_
        refine S_aload_n (pc := 2) dX10_one_2 rfl ?_
        refine G_bipush (pc := 3) dX10_one_3 rfl ?_
        refine S_callV (pc := 5) (ci := 10) (d2 := 1) (mc2 := 0) (ms2 := 0) (As := [_]) dX10_one_5 kX10_isSign lkX10_220 (by assumption) rfl rfl rfl (Nat.le_of_ble_eq_true rfl) ⟨by(omega),by(decide)⟩ (by decide) ?_
        refine c_X10_isSignC h96 hC (by decide) (fun z => absurd z c1) (fun _ => ?_)
        · show G _ _ _ _ _ _ _ _ _ _ _ _ _
          refine G_if_eq_t (pc := 8) 37 dX10_one_8 rfl (by decide) (by decide) ?_
          refine S_aload_n (pc := 37) dX10_one_37 rfl ?_
          refine G_bipush (pc := 38) dX10_one_38 rfl ?_
          refine S_callV (pc := 40) (ci := 10) (d2 := 1) (mc2 := 0) (ms2 := 0) (As := [_]) dX10_one_40 kX10_isSign lkX10_220 (by assumption) rfl rfl rfl (Nat.le_of_ble_eq_true rfl) ⟨by(omega),by(decide)⟩ (by decide) ?_
          refine c_X10_isSignC h96 hC (by decide) (fun _ => ?_) (fun z => absurd c2 z)
          · show G _ _ _ _ _ _ _ _ _ _ _ _ _
            refine G_if_eq_f (pc := 43) 95 dX10_one_43 rfl (by decide) (by decide) ?_
            refine S_aload_n (pc := 46) dX10_one_46 rfl ?_
            refine S_callV (pc := 47) (ci := 10) (d2 := 3) (mc2 := 0) (ms2 := 0) (As := []) dX10_one_47 kX10_opens lkX10_223 (by assumption) rfl rfl rfl (Nat.le_of_ble_eq_true rfl) ⟨by(omega),by(decide)⟩ (by decide) ?_
            refine c_X10_opensC hX hC ho (by omega) (fun z => absurd z c5) (fun _ S1 r1 r2 => ?_)
            · show G _ _ _ _ _ _ _ _ _ _ _ _ _
              refine G_if_eq_t (pc := 50) 160 dX10_one_50 rfl (by decide) (by decide) ?_
              refine G_iload_n (pc := 160) dX10_one_160 rfl ?_
              refine G_iret (pc := 161) dX10_one_161 rfl (by decide) ?_
              exact hF k S1 0 h0 r1 r2 (by decide)
    · by_cases c3 : 1000 ≤ tkk B k
      · have hkN := tk_in hB (k := k) (by omega)
        have hpr : prs (tkk B) (f + 1) 0 k o = .inr (k + 1, [tkk B k - 1000]) := (if_neg (by omega)).trans ((if_neg (by omega)).trans (if_pos c3))
        have hnum : S.1 96 17 = 2 ∧ S.1 96 19 = tkk B k - 1000 ∧ tkk B k ≤ 10999 := by
          rcases hT with h | h | h | h | h
          · omega
          · have := isg_iff.mp h.1; omega
          · omega
          · have := wco_cod (w := S.1 96 19); omega
          · omega
        have h17 := hnum.1
        have h19 := hnum.2.1
        refine G_iconst (pc := 0) dX10_one_0 ?_
        refine G_istore_n (pc := 1) (ls' := [(1, _), (0, _)]) dX10_one_1 (by decide) rfl ?_
        refine S_aload_n (pc := 2) dX10_one_2 rfl ?_
        refine G_bipush (pc := 3) dX10_one_3 rfl ?_
        refine S_callV (pc := 5) (ci := 10) (d2 := 1) (mc2 := 0) (ms2 := 0) (As := [_]) dX10_one_5 kX10_isSign lkX10_220 (by assumption) rfl rfl rfl (Nat.le_of_ble_eq_true rfl) ⟨by(omega),by(decide)⟩ (by decide) ?_
        refine c_X10_isSignC h96 hC (by decide) (fun z => absurd z c1) (fun _ => ?_)
        · show G _ _ _ _ _ _ _ _ _ _ _ _ _
          refine G_if_eq_t (pc := 8) 37 dX10_one_8 rfl (by decide) (by decide) ?_
          refine S_aload_n (pc := 37) dX10_one_37 rfl ?_
          refine G_bipush (pc := 38) dX10_one_38 rfl ?_
          refine S_callV (pc := 40) (ci := 10) (d2 := 1) (mc2 := 0) (ms2 := 0) (As := [_]) dX10_one_40 kX10_isSign lkX10_220 (by assumption) rfl rfl rfl (Nat.le_of_ble_eq_true rfl) ⟨by(omega),by(decide)⟩ (by decide) ?_
          refine c_X10_isSignC h96 hC (by decide) (fun z => absurd z c2) (fun _ => ?_)
          · show G _ _ _ _ _ _ _ _ _ _ _ _ _
            refine G_if_eq_t (pc := 43) 95 dX10_one_43 rfl (by decide) (by decide) ?_
            refine S_aload_n (pc := 95) dX10_one_95 rfl ?_
            refine S_getI (pc := 96) dX10_one_96 fX10_189 (by assumption) rfl ?_
            rw [b22]
            refine G_if_ne_f (pc := 99) 122 dX10_one_99 rfl (by omega) (by decide) ?_
            refine S_aload_n (pc := 102) dX10_one_102 rfl ?_
            refine S_getI (pc := 103) dX10_one_103 fX10_183 (by assumption) rfl ?_
            rw [h17]
            refine G_iconst (pc := 106) dX10_one_106 ?_
            refine G_icmp_ne_f (pc := 107) 122 dX10_one_107 rfl (by omega) (by decide) ?_
            refine S_aload_n (pc := 110) dX10_one_110 rfl ?_
            refine S_getI (pc := 111) dX10_one_111 fX10_186 (by assumption) rfl ?_
            rw [h19]
            refine G_istore_n (pc := 114) (ls' := [(1, _), (0, _)]) dX10_one_114 (by decide) rfl ?_
            refine S_aload_n (pc := 115) dX10_one_115 rfl ?_
            refine S_callV (pc := 116) (ci := 10) (d2 := 2) (mc2 := 0) (ms2 := 0) (As := []) dX10_one_116 kX10_next lkX10_202 (by assumption) rfl rfl rfl (Nat.le_of_ble_eq_true rfl) ⟨by(omega),by(decide)⟩ (by decide) ?_
            refine c_X10_nextC hX hC (by omega) (fun S1 r1 r2 => ?_)
            · show G _ _ _ _ _ _ _ _ _ _ _ _ _
              refine G_goto (pc := 119) 160 dX10_one_119 rfl ?_
              refine G_iload_n (pc := 160) dX10_one_160 rfl ?_
              refine G_iret (pc := 161) dX10_one_161 rfl (by decide) ?_
              exact hS (k + 1) _ _ S1 hpr r1 r2 (by omega) (Val_num (by omega))
      · by_cases c4 : 270 ≤ tkk B k ∧ tkk B k ≤ 275
        · have hkN := tk_in hB (k := k) (by omega)
          have hpr : prs (tkk B) (f + 1) 0 k o = .inr (k + 1, [269 - tkk B k]) := (if_neg (by omega)).trans ((if_neg (by omega)).trans ((if_neg c3).trans (if_pos c4)))
          have h17 : S.1 96 17 = 1 := by
            rcases hT with h | h | h | h | h
            · omega
            · have := isg_iff.mp h.1; omega
            · omega
            · omega
            · omega
          have heb := hY.2.2.2.2.2.2.2
          refine G_iconst (pc := 0) dX10_one_0 ?_
          refine G_istore_n (pc := 1) (ls' := [(1, _), (0, _)]) dX10_one_1 (by decide) rfl ?_
          refine S_aload_n (pc := 2) dX10_one_2 rfl ?_
          refine G_bipush (pc := 3) dX10_one_3 rfl ?_
          refine S_callV (pc := 5) (ci := 10) (d2 := 1) (mc2 := 0) (ms2 := 0) (As := [_]) dX10_one_5 kX10_isSign lkX10_220 (by assumption) rfl rfl rfl (Nat.le_of_ble_eq_true rfl) ⟨by(omega),by(decide)⟩ (by decide) ?_
          refine c_X10_isSignC h96 hC (by decide) (fun z => absurd z c1) (fun _ => ?_)
          · show G _ _ _ _ _ _ _ _ _ _ _ _ _
            refine G_if_eq_t (pc := 8) 37 dX10_one_8 rfl (by decide) (by decide) ?_
            refine S_aload_n (pc := 37) dX10_one_37 rfl ?_
            refine G_bipush (pc := 38) dX10_one_38 rfl ?_
            refine S_callV (pc := 40) (ci := 10) (d2 := 1) (mc2 := 0) (ms2 := 0) (As := [_]) dX10_one_40 kX10_isSign lkX10_220 (by assumption) rfl rfl rfl (Nat.le_of_ble_eq_true rfl) ⟨by(omega),by(decide)⟩ (by decide) ?_
            refine c_X10_isSignC h96 hC (by decide) (fun z => absurd z c2) (fun _ => ?_)
            · show G _ _ _ _ _ _ _ _ _ _ _ _ _
              refine G_if_eq_t (pc := 43) 95 dX10_one_43 rfl (by decide) (by decide) ?_
              refine S_aload_n (pc := 95) dX10_one_95 rfl ?_
              refine S_getI (pc := 96) dX10_one_96 fX10_189 (by assumption) rfl ?_
              rw [b22]
              refine G_if_ne_f (pc := 99) 122 dX10_one_99 rfl (by omega) (by decide) ?_
              refine S_aload_n (pc := 102) dX10_one_102 rfl ?_
              refine S_getI (pc := 103) dX10_one_103 fX10_183 (by assumption) rfl ?_
              rw [h17]
              refine G_iconst (pc := 106) dX10_one_106 ?_
              refine G_icmp_ne_t (pc := 107) 122 dX10_one_107 rfl (by omega) (by decide) ?_
              refine S_aload_n (pc := 122) dX10_one_122 rfl ?_
              refine S_getI (pc := 123) dX10_one_123 fX10_189 (by assumption) rfl ?_
              rw [b22]
              refine G_if_ne_f (pc := 126) 156 dX10_one_126 rfl (by omega) (by decide) ?_
              refine S_aload_n (pc := 129) dX10_one_129 rfl ?_
              refine S_getI (pc := 130) dX10_one_130 fX10_183 (by assumption) rfl ?_
              rw [h17]
              refine G_iconst (pc := 133) dX10_one_133 ?_
              refine G_icmp_ne_f (pc := 134) 156 dX10_one_134 rfl (by omega) (by decide) ?_
              refine S_aload_n (pc := 137) dX10_one_137 rfl ?_
              refine S_callV (pc := 138) (ci := 10) (d2 := 2) (mc2 := 0) (ms2 := 0) (As := []) dX10_one_138 kX10_name lkX10_234 (by assumption) rfl rfl rfl (Nat.le_of_ble_eq_true rfl) ⟨by(omega),by(decide)⟩ (by decide) ?_
              refine c_X10_nameC hY hC h17 (fun i hi hib => ?_) (fun z => absurd c4 z)
              · show G _ _ _ _ _ _ _ _ _ _ _ _ _
                refine G_istore_n (pc := 141) (ls' := [(1, _), (0, _)]) dX10_one_141 (by decide) rfl ?_
                refine S_aload_n (pc := 142) dX10_one_142 rfl ?_
                refine S_getI (pc := 143) dX10_one_143 fX10_189 (by assumption) rfl ?_
                rw [b22]
                refine G_if_ne_f (pc := 146) 160 dX10_one_146 rfl (by omega) (by decide) ?_
                refine S_aload_n (pc := 149) dX10_one_149 rfl ?_
                refine S_callV (pc := 150) (ci := 10) (d2 := 2) (mc2 := 0) (ms2 := 0) (As := []) dX10_one_150 kX10_next lkX10_202 (by assumption) rfl rfl rfl (Nat.le_of_ble_eq_true rfl) ⟨by(omega),by(decide)⟩ (by decide) ?_
                refine c_X10_nextC hX hC (by omega) (fun S1 r1 r2 => ?_)
                · show G _ _ _ _ _ _ _ _ _ _ _ _ _
                  refine G_goto (pc := 153) 160 dX10_one_153 rfl ?_
                  refine G_iload_n (pc := 160) dX10_one_160 rfl ?_
                  refine G_iret (pc := 161) dX10_one_161 rfl (by decide) ?_
                  have he := heb i
                  exact hS (k + 1) _ _ S1 hpr r1 r2 (by omega) (by rw [show 269 - tkk B k = -1 - i by omega]; exact Val_nam hib (by omega))
        · have hpr : prs (tkk B) (f + 1) 0 k o = .inl k := (if_neg (by omega)).trans ((if_neg (by omega)).trans ((if_neg c3).trans (if_neg c4)))
          have h17n : S.1 96 17 ≠ 2 := by
            rcases hT with h | h | h | h | h <;> omega
          by_cases h17 : S.1 96 17 = 1
          · skip
            refine G_iconst (pc := 0) dX10_one_0 ?_
            refine G_istore_n (pc := 1) (ls' := [(1, _), (0, _)]) dX10_one_1 (by decide) rfl ?_
            refine S_aload_n (pc := 2) dX10_one_2 rfl ?_
            refine G_bipush (pc := 3) dX10_one_3 rfl ?_
            refine S_callV (pc := 5) (ci := 10) (d2 := 1) (mc2 := 0) (ms2 := 0) (As := [_]) dX10_one_5 kX10_isSign lkX10_220 (by assumption) rfl rfl rfl (Nat.le_of_ble_eq_true rfl) ⟨by(omega),by(decide)⟩ (by decide) ?_
            refine c_X10_isSignC h96 hC (by decide) (fun z => absurd z c1) (fun _ => ?_)
            · show G _ _ _ _ _ _ _ _ _ _ _ _ _
              refine G_if_eq_t (pc := 8) 37 dX10_one_8 rfl (by decide) (by decide) ?_
              refine S_aload_n (pc := 37) dX10_one_37 rfl ?_
              refine G_bipush (pc := 38) dX10_one_38 rfl ?_
              refine S_callV (pc := 40) (ci := 10) (d2 := 1) (mc2 := 0) (ms2 := 0) (As := [_]) dX10_one_40 kX10_isSign lkX10_220 (by assumption) rfl rfl rfl (Nat.le_of_ble_eq_true rfl) ⟨by(omega),by(decide)⟩ (by decide) ?_
              refine c_X10_isSignC h96 hC (by decide) (fun z => absurd z c2) (fun _ => ?_)
              · show G _ _ _ _ _ _ _ _ _ _ _ _ _
                refine G_if_eq_t (pc := 43) 95 dX10_one_43 rfl (by decide) (by decide) ?_
                refine S_aload_n (pc := 95) dX10_one_95 rfl ?_
                refine S_getI (pc := 96) dX10_one_96 fX10_189 (by assumption) rfl ?_
                rw [b22]
                refine G_if_ne_f (pc := 99) 122 dX10_one_99 rfl (by omega) (by decide) ?_
                refine S_aload_n (pc := 102) dX10_one_102 rfl ?_
                refine S_getI (pc := 103) dX10_one_103 fX10_183 (by assumption) rfl ?_
                rw [h17]
                refine G_iconst (pc := 106) dX10_one_106 ?_
                refine G_icmp_ne_t (pc := 107) 122 dX10_one_107 rfl (by omega) (by decide) ?_
                refine S_aload_n (pc := 122) dX10_one_122 rfl ?_
                refine S_getI (pc := 123) dX10_one_123 fX10_189 (by assumption) rfl ?_
                rw [b22]
                refine G_if_ne_f (pc := 126) 156 dX10_one_126 rfl (by omega) (by decide) ?_
                refine S_aload_n (pc := 129) dX10_one_129 rfl ?_
                refine S_getI (pc := 130) dX10_one_130 fX10_183 (by assumption) rfl ?_
                rw [h17]
                refine G_iconst (pc := 133) dX10_one_133 ?_
                refine G_icmp_ne_f (pc := 134) 156 dX10_one_134 rfl (by omega) (by decide) ?_
                refine S_aload_n (pc := 137) dX10_one_137 rfl ?_
                refine S_callV (pc := 138) (ci := 10) (d2 := 2) (mc2 := 0) (ms2 := 0) (As := []) dX10_one_138 kX10_name lkX10_234 (by assumption) rfl rfl rfl (Nat.le_of_ble_eq_true rfl) ⟨by(omega),by(decide)⟩ (by decide) ?_
                refine c_X10_nameC hY hC h17 (fun i hi hib => absurd hi (by omega)) (fun _ S1 r1 r2 => ?_)
                · show G _ _ _ _ _ _ _ _ _ _ _ _ _
                  refine G_istore_n (pc := 141) (ls' := [(1, _), (0, _)]) dX10_one_141 (by decide) rfl ?_
                  refine S_aload_n (pc := 142) dX10_one_142 rfl ?_
                  refine S_getI (pc := 143) dX10_one_143 fX10_189 (by assumption) rfl ?_
                  rw [r2.1]
                  refine G_if_ne_t (pc := 146) 160 dX10_one_146 rfl (by omega) (by decide) ?_
                  refine G_iload_n (pc := 160) dX10_one_160 rfl ?_
                  refine G_iret (pc := 161) dX10_one_161 rfl (by decide) ?_
                  exact hF k S1 0 hpr r1 r2 (by decide)
          · skip
            refine G_iconst (pc := 0) dX10_one_0 ?_
            refine G_istore_n (pc := 1) (ls' := [(1, _), (0, _)]) dX10_one_1 (by decide) rfl ?_
            refine S_aload_n (pc := 2) dX10_one_2 rfl ?_
            refine G_bipush (pc := 3) dX10_one_3 rfl ?_
            refine S_callV (pc := 5) (ci := 10) (d2 := 1) (mc2 := 0) (ms2 := 0) (As := [_]) dX10_one_5 kX10_isSign lkX10_220 (by assumption) rfl rfl rfl (Nat.le_of_ble_eq_true rfl) ⟨by(omega),by(decide)⟩ (by decide) ?_
            refine c_X10_isSignC h96 hC (by decide) (fun z => absurd z c1) (fun _ => ?_)
            · show G _ _ _ _ _ _ _ _ _ _ _ _ _
              refine G_if_eq_t (pc := 8) 37 dX10_one_8 rfl (by decide) (by decide) ?_
              refine S_aload_n (pc := 37) dX10_one_37 rfl ?_
              refine G_bipush (pc := 38) dX10_one_38 rfl ?_
              refine S_callV (pc := 40) (ci := 10) (d2 := 1) (mc2 := 0) (ms2 := 0) (As := [_]) dX10_one_40 kX10_isSign lkX10_220 (by assumption) rfl rfl rfl (Nat.le_of_ble_eq_true rfl) ⟨by(omega),by(decide)⟩ (by decide) ?_
              refine c_X10_isSignC h96 hC (by decide) (fun z => absurd z c2) (fun _ => ?_)
              · show G _ _ _ _ _ _ _ _ _ _ _ _ _
                refine G_if_eq_t (pc := 43) 95 dX10_one_43 rfl (by decide) (by decide) ?_
                refine S_aload_n (pc := 95) dX10_one_95 rfl ?_
                refine S_getI (pc := 96) dX10_one_96 fX10_189 (by assumption) rfl ?_
                rw [b22]
                refine G_if_ne_f (pc := 99) 122 dX10_one_99 rfl (by omega) (by decide) ?_
                refine S_aload_n (pc := 102) dX10_one_102 rfl ?_
                refine S_getI (pc := 103) dX10_one_103 fX10_183 (by assumption) rfl ?_
                refine G_iconst (pc := 106) dX10_one_106 ?_
                refine G_icmp_ne_t (pc := 107) 122 dX10_one_107 rfl (by omega) (by omega) ?_
                refine S_aload_n (pc := 122) dX10_one_122 rfl ?_
                refine S_getI (pc := 123) dX10_one_123 fX10_189 (by assumption) rfl ?_
                rw [b22]
                refine G_if_ne_f (pc := 126) 156 dX10_one_126 rfl (by omega) (by decide) ?_
                refine S_aload_n (pc := 129) dX10_one_129 rfl ?_
                refine S_getI (pc := 130) dX10_one_130 fX10_183 (by assumption) rfl ?_
                refine G_iconst (pc := 133) dX10_one_133 ?_
                refine G_icmp_ne_t (pc := 134) 156 dX10_one_134 rfl (by omega) (by omega) ?_
                refine S_aload_n (pc := 156) dX10_one_156 rfl ?_
                refine S_callV (pc := 157) (ci := 10) (d2 := 1) (mc2 := 0) (ms2 := 0) (As := []) dX10_one_157 kX10_fail lkX10_199 (by assumption) rfl rfl rfl (Nat.le_of_ble_eq_true rfl) ⟨by(omega),by(decide)⟩ (by decide) ?_
                refine c_X10_failC h96 hC (fun S1 r1 r2 => ?_)
                · show G _ _ _ _ _ _ _ _ _ _ _ _ _
                  refine G_iload_n (pc := 160) dX10_one_160 rfl ?_
                  refine G_iret (pc := 161) dX10_one_161 rfl (by decide) ?_
                  exact hF k S1 0 hpr r1 r2 (by decide)
theorem gm_all {g : GC} {sh : SH} {N : Int} {B env : Int → Int} : ∀ f : Nat, GmC g sh N B env mX10_one 0 1 4 f ∧ GmC g sh N B env mX10_term 1 2 5 f ∧ GmC g sh N B env mX10_added 2 3 6 f ∧ GmC g sh N B env mX10_not 3 4 7 f ∧ GmC g sh N B env mX10_both 4 5 8 f ∧ GmC g sh N B env mX10_either 5 6 9 f ∧ GmL g sh N B env mX10_term 6 5 f ∧ GmL g sh N B env mX10_added 7 6 f ∧ GmL g sh N B env mX10_both 8 8 f ∧ GmL g sh N B env mX10_either 9 9 f
  | 0 => ⟨fun k o S n Q h => absurd h (by omega), fun k o S n Q h => absurd h (by omega), fun k o S n Q h => absurd h (by omega), fun k o S n Q h => absurd h (by omega), fun k o S n Q h => absurd h (by omega), fun k o S n Q h => absurd h (by omega), fun k o S n Q v h => absurd h (by omega), fun k o S n Q v h => absurd h (by omega), fun k o S n Q v h => absurd h (by omega), fun k o S n Q v h => absurd h (by omega)⟩
  | f + 1 => by
    obtain ⟨h0, h1, h2, h3, h4, h5, h6, h7, h8, h9⟩ := gm_all (g := g) (sh := sh) (N := N) (B := B) (env := env) f
    exact ⟨st_one h0 h5, st_term h0 h6, st_added h1 h7, st_not h2 h3, st_both h3 h8, st_either h4 h9, lp_term h0 h6, lp_added h1 h7, lp_both h3 h8, lp_either h4 h9⟩
