/-! the Model: part, read, saysOf -/
def GrR (S S' : SS) : Prop := S'.2 = S.2 ∧ ∀ a k : Nat, (a ≠ 96 ∨ k < 15 ∨ 28 < k) → S'.1 a k = S.1 a k
theorem GrR_rf {S : SS} : GrR S S := ⟨rfl, fun _ _ _ => rfl⟩
theorem GrR_tr {S S' S'' : SS} (h : GrR S S') (h' : GrR S' S'') : GrR S S'' := ⟨h'.1.trans h.1, fun a k q => (h'.2 a k q).trans (h.2 a k q)⟩
theorem GrS_R {S S' : SS} (h : GrS S S') : GrR S S' := ⟨h.1, fun a k q => h.2 a k (by omega)⟩
theorem GrR_F {S S' : SS} {k : Nat} {v : Int} (h : GrR S S') (hk : 15 ≤ k ∧ k ≤ 28) : GrR S (setF S' 96 k v) := ⟨h.1, fun a j q => (setF_ne (by omega)).trans (h.2 a j q)⟩
theorem GrR_scr {S S' : SS} (h : GrR S S') : MScr S S' := ⟨fun a k q => h.2 a k (by omega), congrArg (·.2) h.1, fun b _ => by rw [h.1], fun r _ _ => by unfold mg; rw [h.1], fun z => by rw [h.1]; exact z⟩
set_option maxRecDepth 100000 in
set_option maxHeartbeats 4000000 in
theorem c_X10_part {g : GC} {sh : SH} {S : SS} {n : Nat} {N v cc : Int} {B env : Int → Int} {k : Nat} {Q : Option Value → GA → Nat → Prop} (hY : MtY sh S N B env) (hC : MtC S N B k 0) (hk : (k : Int) ≤ N) (hv : ∀ w : Int, wco w = cc ↔ w = v) (hcc : 260 ≤ cc ∧ cc ≤ 265) (hvr : 0 ≤ v ∧ v ≤ 14348907)
    (hF : ∀ (kf : Nat) (S' : SS) (v : Int), prt (tkk B) cc k = .inl kf → GrS S S' → MtF S' (tka N B kf) → (-2147483648 ≤ v ∧ v ≤ 2147483647) → Q (some (.int (iI v))) (hp g sh S') n)
    (hS : ∀ (k1 : Nat) (l : List Int) (v : Int) (S' : SS), prt (tkk B) cc k = .inr (k1, l) → GrS S S' → MtC S' N B k1 0 → (k ≤ k1 ∧ (k1 : Int) ≤ N) → Val env l v → Q (some (.int (iI v))) (hp g sh S') n) :
    GCall g mX10_part 45 0 0 [gr g 96, .int (iI v)] (hp g sh S) n Q := by
  have h96 := hY.1.1
  have hX := hY.1
  have hB := hX.2.2.2.1
  refine GCall.of (by decide) (Nat.le_of_ble_eq_true rfl) (ls := [(0, _), (1, _)]) rfl ?_
  have Kf : ∀ (kf : Nat) (S1 : SS) (x : Int), prt (tkk B) cc k = .inl kf → GrS S S1 → MtF S1 (tka N B kf) → (-2147483648 ≤ x ∧ x ≤ 2147483647) → G g mX10_part 45 0 0 52 [(2, .int (iI x)), (0, gr g 96)] [] (hp g sh S1) n 0 0 Q := by
    intro kf S1 x e r1 r2 rv
    have e22 := r2.1
    refine S_aload_n (pc := 52) dX10_part_52 rfl ?_
    refine S_getI (pc := 53) dX10_part_53 fX10_189 (by assumption) rfl ?_
    rw [e22]
    refine G_if_ne_t (pc := 56) 63 dX10_part_56 rfl (by omega) (by decide) ?_
    refine G_iload_n (pc := 63) dX10_part_63 rfl ?_
    refine G_iret (pc := 64) dX10_part_64 rfl (by decide) ?_
    exact hF kf S1 x e r1 r2 rv
  have Kf39 : ∀ (kf : Nat) (S1 : SS) (x : Int), prt (tkk B) cc k = .inl kf → GrS S S1 → MtF S1 (tka N B kf) → (-2147483648 ≤ x ∧ x ≤ 2147483647) → G g mX10_part 45 0 0 39 [(2, .int (iI x)), (0, gr g 96)] [] (hp g sh S1) n 0 0 Q := by
    intro kf S1 x e r1 r2 rv
    refine S_aload_n (pc := 39) dX10_part_39 rfl ?_
    refine G_bipush (pc := 40) dX10_part_40 rfl ?_
    refine S_callV (pc := 42) (ci := 10) (d2 := 1) (mc2 := 0) (ms2 := 0) (As := [_]) dX10_part_42 kX10_isSign lkX10_220 (by assumption) rfl rfl rfl (Nat.le_of_ble_eq_true rfl) ⟨by decide, by decide⟩ (by decide) ?_
    refine c_X10_isSignF h96 r2 ?_
    show G _ _ _ _ _ _ _ _ _ _ _ _ _
    refine G_if_ne_f (pc := 45) 52 dX10_part_45 rfl (by omega) (by decide) ?_
    refine S_aload_n (pc := 48) dX10_part_48 rfl ?_
    refine S_callV (pc := 49) (ci := 10) (d2 := 1) (mc2 := 0) (ms2 := 0) (As := []) dX10_part_49 kX10_fail lkX10_199 (by assumption) rfl rfl rfl (Nat.le_of_ble_eq_true rfl) ⟨by decide, by decide⟩ (by decide) ?_
    refine c_X10_failF h96 r2 ?_
    show G _ _ _ _ _ _ _ _ _ _ _ _ _
    exact Kf kf S1 x e r1 r2 rv
  by_cases c : tkk B k = cc
  · have hkN := tk_in hB (k := k) (by omega)
    have hpr : prt (tkk B) cc k = bnd (prs (tkk B) 2000 5 (k + 1) 0) (fun k1 l1 => if tkk B k1 = 59 then .inr (k1 + 1, l1) else .inl k1) := if_pos c
    have Ks39 : ∀ (k1 : Nat) (l1 : List Int) (v1 : Int) (S1 : SS), prs (tkk B) 2000 5 (k + 1) 0 = .inr (k1, l1) → GrS S S1 → MtC S1 N B k1 0 → (k + 1 ≤ k1 ∧ (k1 : Int) ≤ N) → Val env l1 v1 → G g mX10_part 45 0 0 39 [(2, .int (iI v1)), (0, gr g 96)] [] (hp g sh S1) n 0 0 Q := by
      intro k1 l1 v1 S1 e r1 r2 rk rv
      by_cases d1 : tkk B k1 = 59
      · have hkN1 := tk_in hB (k := k1) (by omega)
        have X2 : MtX sh S1 N B := MtX_gr r1 hX
        have e22 := r2.1
        refine S_aload_n (pc := 39) dX10_part_39 rfl ?_
        refine G_bipush (pc := 40) dX10_part_40 rfl ?_
        refine S_callV (pc := 42) (ci := 10) (d2 := 1) (mc2 := 0) (ms2 := 0) (As := [_]) dX10_part_42 kX10_isSign lkX10_220 (by assumption) rfl rfl rfl (Nat.le_of_ble_eq_true rfl) ⟨by decide, by decide⟩ (by decide) ?_
        refine c_X10_isSignC h96 r2 (by decide) (fun _ => ?_) (fun z => absurd d1 z)
        · show G _ _ _ _ _ _ _ _ _ _ _ _ _
          refine G_if_ne_t (pc := 45) 52 dX10_part_45 rfl (by decide) (by decide) ?_
          refine S_aload_n (pc := 52) dX10_part_52 rfl ?_
          refine S_getI (pc := 53) dX10_part_53 fX10_189 (by assumption) rfl ?_
          rw [e22]
          refine G_if_ne_f (pc := 56) 63 dX10_part_56 rfl (by omega) (by decide) ?_
          refine S_aload_n (pc := 59) dX10_part_59 rfl ?_
          refine S_callV (pc := 60) (ci := 10) (d2 := 2) (mc2 := 0) (ms2 := 0) (As := []) dX10_part_60 kX10_next lkX10_202 (by assumption) rfl rfl rfl (Nat.le_of_ble_eq_true rfl) ⟨by decide, by decide⟩ (by decide) ?_
          refine c_X10_nextC X2 r2 (by omega) (fun S2 q1 q2 => ?_)
          · show G _ _ _ _ _ _ _ _ _ _ _ _ _
            refine G_iload_n (pc := 63) dX10_part_63 rfl ?_
            refine G_iret (pc := 64) dX10_part_64 rfl (by decide) ?_
            exact hS (k1 + 1) l1 v1 S2 (by rw [hpr, e]; exact if_pos d1) (GrS_tr r1 q1) q2 (by omega) rv
      · skip
        refine S_aload_n (pc := 39) dX10_part_39 rfl ?_
        refine G_bipush (pc := 40) dX10_part_40 rfl ?_
        refine S_callV (pc := 42) (ci := 10) (d2 := 1) (mc2 := 0) (ms2 := 0) (As := [_]) dX10_part_42 kX10_isSign lkX10_220 (by assumption) rfl rfl rfl (Nat.le_of_ble_eq_true rfl) ⟨by decide, by decide⟩ (by decide) ?_
        refine c_X10_isSignC h96 r2 (by decide) (fun z => absurd z d1) (fun _ => ?_)
        · show G _ _ _ _ _ _ _ _ _ _ _ _ _
          refine G_if_ne_f (pc := 45) 52 dX10_part_45 rfl (by decide) (by decide) ?_
          refine S_aload_n (pc := 48) dX10_part_48 rfl ?_
          refine S_callV (pc := 49) (ci := 10) (d2 := 1) (mc2 := 0) (ms2 := 0) (As := []) dX10_part_49 kX10_fail lkX10_199 (by assumption) rfl rfl rfl (Nat.le_of_ble_eq_true rfl) ⟨by decide, by decide⟩ (by decide) ?_
          refine c_X10_failC h96 r2 (fun S2 q1 q2 => ?_)
          · show G _ _ _ _ _ _ _ _ _ _ _ _ _
            exact Kf k1 S2 v1 (by rw [hpr, e]; exact if_neg d1) (GrS_tr r1 q1) q2 rv.2
    have hE := (gm_all (g := g) (sh := sh) (N := N) (B := B) (env := env) 2000).2.2.2.2.2.1
    have e22 := hC.1
    refine S_aload_n (pc := 0) dX10_part_0 rfl ?_
    refine G_iload_n (pc := 1) dX10_part_1 rfl ?_
    refine S_callV (pc := 2) (ci := 10) (d2 := 1) (mc2 := 0) (ms2 := 0) (As := [_]) dX10_part_2 kX10_isWord lkX10_240 (by assumption) rfl rfl rfl (Nat.le_of_ble_eq_true rfl) ⟨by decide, by decide⟩ (by decide) ?_
    refine c_X10_isWordC h96 hC hv hcc hvr (fun _ => ?_) (fun z => absurd c z)
    · show G _ _ _ _ _ _ _ _ _ _ _ _ _
      refine G_if_ne_t (pc := 5) 12 dX10_part_5 rfl (by decide) (by decide) ?_
      refine S_aload_n (pc := 12) dX10_part_12 rfl ?_
      refine S_getI (pc := 13) dX10_part_13 fX10_189 (by assumption) rfl ?_
      rw [e22]
      refine G_if_ne_f (pc := 16) 23 dX10_part_16 rfl (by omega) (by decide) ?_
      refine S_aload_n (pc := 19) dX10_part_19 rfl ?_
      refine S_callV (pc := 20) (ci := 10) (d2 := 2) (mc2 := 0) (ms2 := 0) (As := []) dX10_part_20 kX10_next lkX10_202 (by assumption) rfl rfl rfl (Nat.le_of_ble_eq_true rfl) ⟨by decide, by decide⟩ (by decide) ?_
      refine c_X10_nextC hX hC (by omega) (fun S1 r1 r2 => ?_)
      · show G _ _ _ _ _ _ _ _ _ _ _ _ _
        refine S_aload_n (pc := 23) dX10_part_23 rfl ?_
        refine S_getI (pc := 24) dX10_part_24 fX10_189 (by assumption) rfl ?_
        rw [r2.1]
        refine G_if_eq_t (pc := 27) 34 dX10_part_27 rfl (by omega) (by decide) ?_
        refine S_aload_n (pc := 34) dX10_part_34 rfl ?_
        refine S_callV (pc := 35) (ci := 10) (d2 := 44) (mc2 := 0) (ms2 := 0) (As := []) dX10_part_35 kX10_either lkX10_231 (by assumption) rfl rfl rfl (Nat.le_of_ble_eq_true rfl) ⟨by decide, by decide⟩ (by decide) ?_
        refine hE (k + 1) 0 S1 n _ (by omega) (by omega) (by omega) (MtY_gr r1 hY) r2 (fun kf S2 v e q1 q2 qv => ?_) (fun k1 l1 v1 S2 e q1 q2 qk qv => ?_)
        · show G _ _ _ _ _ _ _ _ _ _ _ _ _
          refine G_istore_n (pc := 38) (ls' := [(2, _), (0, _), (1, _)]) dX10_part_38 (by decide) rfl ?_
          refine G_ls (ls' := [(2, _), (0, _)]) (lsub_c rfl (lsub_c rfl lsub_n)) ?_
          first
            | exact Kf39 kf S2 v (by rw [hpr, e]; rfl) (GrS_tr r1 q1) q2 qv
            | exact Ks39 k1 l1 v1 S2 e (GrS_tr r1 q1) q2 qk qv
        · show G _ _ _ _ _ _ _ _ _ _ _ _ _
          refine G_istore_n (pc := 38) (ls' := [(2, _), (0, _), (1, _)]) dX10_part_38 (by decide) rfl ?_
          refine G_ls (ls' := [(2, _), (0, _)]) (lsub_c rfl (lsub_c rfl lsub_n)) ?_
          first
            | exact Kf39 kf S2 v (by rw [hpr, e]; rfl) (GrS_tr r1 q1) q2 qv
            | exact Ks39 k1 l1 v1 S2 e (GrS_tr r1 q1) q2 qk qv
  · have hpr : prt (tkk B) cc k = .inl k := if_neg c
    have e22 := hC.1
    refine S_aload_n (pc := 0) dX10_part_0 rfl ?_
    refine G_iload_n (pc := 1) dX10_part_1 rfl ?_
    refine S_callV (pc := 2) (ci := 10) (d2 := 1) (mc2 := 0) (ms2 := 0) (As := [_]) dX10_part_2 kX10_isWord lkX10_240 (by assumption) rfl rfl rfl (Nat.le_of_ble_eq_true rfl) ⟨by decide, by decide⟩ (by decide) ?_
    refine c_X10_isWordC h96 hC hv hcc hvr (fun z => absurd z c) (fun _ => ?_)
    · show G _ _ _ _ _ _ _ _ _ _ _ _ _
      refine G_if_ne_f (pc := 5) 12 dX10_part_5 rfl (by decide) (by decide) ?_
      refine S_aload_n (pc := 8) dX10_part_8 rfl ?_
      refine S_callV (pc := 9) (ci := 10) (d2 := 1) (mc2 := 0) (ms2 := 0) (As := []) dX10_part_9 kX10_fail lkX10_199 (by assumption) rfl rfl rfl (Nat.le_of_ble_eq_true rfl) ⟨by decide, by decide⟩ (by decide) ?_
      refine c_X10_failC h96 hC (fun S1 r1 r2 => ?_)
      · show G _ _ _ _ _ _ _ _ _ _ _ _ _
        refine S_aload_n (pc := 12) dX10_part_12 rfl ?_
        refine S_getI (pc := 13) dX10_part_13 fX10_189 (by assumption) rfl ?_
        rw [r2.1]
        refine G_if_ne_t (pc := 16) 23 dX10_part_16 rfl (by omega) (by decide) ?_
        refine S_aload_n (pc := 23) dX10_part_23 rfl ?_
        refine S_getI (pc := 24) dX10_part_24 fX10_189 (by assumption) rfl ?_
        rw [r2.1]
        refine G_if_eq_f (pc := 27) 34 dX10_part_27 rfl (by omega) (by decide) ?_
        refine G_iconst (pc := 30) dX10_part_30 ?_
        refine G_goto (pc := 31) 38 dX10_part_31 rfl ?_
        refine G_istore_n (pc := 38) (ls' := [(2, _), (0, _), (1, _)]) dX10_part_38 (by decide) rfl ?_
        refine G_ls (ls' := [(2, _), (0, _)]) (lsub_c rfl (lsub_c rfl lsub_n)) ?_
        exact Kf39 k S1 0 hpr r1 r2 (by decide)
/-- the Model's texts -/
def MxW (sh : SH) (S : SS) (tc ru : Int) : Prop := sh 96 = some (.inl 10) ∧ S.2.2 96 9 = some 102 ∧ S.2.2 96 10 = some 103 ∧ sh 102 = some (.inr (1, 960)) ∧ sh 103 = some (.inr (1, 6)) ∧ S.1 96 11 = tc ∧ S.1 96 12 = ru ∧ (1 ≤ tc ∧ tc ≤ 6) ∧ (0 ≤ ru ∧ ru < tc) ∧ (∀ i : Int, 0 ≤ S.2.1 102 i ∧ S.2.1 102 i ≤ 255) ∧ ∀ i : Int, 0 ≤ S.2.1 103 i ∧ S.2.1 103 i ≤ 160
def mtB (S : SS) (t : Int) : Int → Int := bt (S.2.1 103 t) (fun i => S.2.1 102 (160 * t + i))
theorem mtB_is {sh : SH} {S : SS} {tc ru t : Int} (h : MxW sh S tc ru) : IsB (S.2.1 103 t) (mtB S t) := by
  obtain ⟨h96, q9, q10, h102, h103, e11, e12, htc, hru, r102, r103⟩ := h
  refine ⟨r103 t, fun i hi => if_neg (by omega), fun i h0 hi => ?_⟩
  have : mtB S t i = S.2.1 102 (160 * t + i) := if_pos ⟨h0, hi⟩
  rw [this]; exact r102 _
set_option maxRecDepth 100000 in
set_option maxHeartbeats 4000000 in
theorem c_X10_read {g : GC} {sh : SH} {S : SS} {n : Nat} {t wh N tc ru : Int} {B env : Int → Int} {Q : Option Value → GA → Nat → Prop} (hM : MxW sh S tc ru) (hE : MtE S env) (ht : 0 ≤ t ∧ t < 6) (hwh : 0 ≤ wh ∧ wh ≤ 2) (hN : S.2.1 103 t = N) (hB0 : mtB S t = B)
    (hF : ∀ (kf : Nat) (S' : SS) (v : Int), ptx (tkk B) = .inl kf → GrR S S' → MtF S' (tka N B kf) → Q (some (.int (iI v))) (hp g sh S') n)
    (hS : ∀ (l0 l1 l2 : List Int) (v : Int) (S' : SS), ptx (tkk B) = .inr (l0, l1, l2) → GrR S S' → S'.1 96 22 = 0 → Val env (if wh = 0 then l0 else if wh = 1 then l1 else l2) v → Q (some (.int (iI v))) (hp g sh S') n) :
    GCall g mX10_read 46 0 0 [gr g 96, .int (iI t), .int (iI wh)] (hp g sh S) n Q := by
  have hB := mtB_is (t := t) hM
  rw [hN, hB0] at hB
  obtain ⟨h96, q9, q10, h102, h103, e11, e12, htc, hru, r102, r103⟩ := hM
  have h160 := hB.1
  refine GCall.of (by decide) (Nat.le_of_ble_eq_true rfl) (ls := [(0, _), (1, _), (2, _)]) rfl ?_
  have hX1 : MtX sh (setF (setF (setF (setF (setF S 96 15 (160 * t)) 96 16 N) 96 20 0) 96 21 0) 96 22 0) N B := by
    refine ⟨h96, q9, h102, hB, ?_, ?_, ?_⟩
    · rw [setF_ne (by decide), setF_ne (by decide), setF_ne (by decide), setF_at]
    · rw [setF_ne (by decide), setF_ne (by decide), setF_ne (by decide), setF_ne (by decide), setF_at]; omega
    · rw [setF_ne (by decide), setF_ne (by decide), setF_ne (by decide), setF_ne (by decide), setF_at, ← hB0]
      intro i i0 i1
      have : mtB S t i = S.2.1 102 (160 * t + i) := if_pos (by omega)
      rw [this]; rfl
  have hR1 : GrR S (setF (setF (setF (setF (setF S 96 15 (160 * t)) 96 16 N) 96 20 0) 96 21 0) 96 22 0) := GrR_F (GrR_F (GrR_F (GrR_F (GrR_F GrR_rf (by decide)) (by decide)) (by decide)) (by decide)) (by decide)
  have hE1 : MtE (setF (setF (setF (setF (setF S 96 15 (160 * t)) 96 16 N) 96 20 0) 96 21 0) 96 22 0) env := hE
  have Kend : ∀ (S1 : SS) (x0 x1 x2 : Int), GrR S S1 → ((∃ kf : Nat, ptx (tkk B) = .inl kf ∧ MtF S1 (tka N B kf)) ∨ ∃ l0 l1 l2 : List Int, ptx (tkk B) = .inr (l0, l1, l2) ∧ S1.1 96 22 = 0 ∧ Val env l0 x0 ∧ Val env l1 x1 ∧ Val env l2 x2) → G g mX10_read 46 0 0 103 [(5, .int (iI x2)), (4, .int (iI x1)), (3, .int (iI x0)), (0, gr g 96), (2, .int (iI wh))] [] (hp g sh S1) n 0 0 Q := by
    intro S1 x0 x1 x2 r1 hor
    rcases hor with ⟨kf, e, r2⟩ | ⟨l0, l1, l2, e, r2, v0, v1, v2⟩
    · skip
      refine G_iload_n (pc := 103) dX10_read_103 rfl ?_
      refine G_if_ne (pc := 104) 111 dX10_read_104 rfl (by omega) (fun c104 => ?_) (fun c104 => ?_)
      · skip
        refine G_iload_n (pc := 111) dX10_read_111 rfl ?_
        refine G_iconst (pc := 112) dX10_read_112 ?_
        refine G_icmp_ne (pc := 113) 121 dX10_read_113 rfl (by omega) (fun c113 => ?_) (fun c113 => ?_)
        · skip
          refine G_iload (pc := 121) dX10_read_121 rfl ?_
          refine G_iret (pc := 123) dX10_read_123 rfl (by decide) ?_
          exact hF kf S1 _ e r1 r2
        · skip
          refine G_iload (pc := 116) dX10_read_116 rfl ?_
          refine G_goto (pc := 118) 123 dX10_read_118 rfl ?_
          refine G_iret (pc := 123) dX10_read_123 rfl (by decide) ?_
          exact hF kf S1 _ e r1 r2
      · skip
        refine G_iload_n (pc := 107) dX10_read_107 rfl ?_
        refine G_goto (pc := 108) 123 dX10_read_108 rfl ?_
        refine G_iret (pc := 123) dX10_read_123 rfl (by decide) ?_
        exact hF kf S1 _ e r1 r2
    · skip
      refine G_iload_n (pc := 103) dX10_read_103 rfl ?_
      refine G_if_ne (pc := 104) 111 dX10_read_104 rfl (by omega) (fun c104 => ?_) (fun c104 => ?_)
      · skip
        refine G_iload_n (pc := 111) dX10_read_111 rfl ?_
        refine G_iconst (pc := 112) dX10_read_112 ?_
        refine G_icmp_ne (pc := 113) 121 dX10_read_113 rfl (by omega) (fun c113 => ?_) (fun c113 => ?_)
        · skip
          refine G_iload (pc := 121) dX10_read_121 rfl ?_
          refine G_iret (pc := 123) dX10_read_123 rfl (by decide) ?_
          first
            | exact hS l0 l1 l2 _ S1 e r1 r2 (by rw [if_pos (by omega)]; exact v0)
            | exact hS l0 l1 l2 _ S1 e r1 r2 (by rw [if_neg (by omega), if_pos (by omega)]; exact v1)
            | exact hS l0 l1 l2 _ S1 e r1 r2 (by rw [if_neg (by omega), if_neg (by omega)]; exact v2)
        · skip
          refine G_iload (pc := 116) dX10_read_116 rfl ?_
          refine G_goto (pc := 118) 123 dX10_read_118 rfl ?_
          refine G_iret (pc := 123) dX10_read_123 rfl (by decide) ?_
          first
            | exact hS l0 l1 l2 _ S1 e r1 r2 (by rw [if_pos (by omega)]; exact v0)
            | exact hS l0 l1 l2 _ S1 e r1 r2 (by rw [if_neg (by omega), if_pos (by omega)]; exact v1)
            | exact hS l0 l1 l2 _ S1 e r1 r2 (by rw [if_neg (by omega), if_neg (by omega)]; exact v2)
      · skip
        refine G_iload_n (pc := 107) dX10_read_107 rfl ?_
        refine G_goto (pc := 108) 123 dX10_read_108 rfl ?_
        refine G_iret (pc := 123) dX10_read_123 rfl (by decide) ?_
        first
          | exact hS l0 l1 l2 _ S1 e r1 r2 (by rw [if_pos (by omega)]; exact v0)
          | exact hS l0 l1 l2 _ S1 e r1 r2 (by rw [if_neg (by omega), if_pos (by omega)]; exact v1)
          | exact hS l0 l1 l2 _ S1 e r1 r2 (by rw [if_neg (by omega), if_neg (by omega)]; exact v2)
  -- after the third part
  have K83F : ∀ (S1 : SS) (x0 x1 x2 : Int) (kf : Nat), GrR S S1 → ptx (tkk B) = .inl kf → MtF S1 (tka N B kf) → G g mX10_read 46 0 0 83 [(4, .int (iI x1)), (3, .int (iI x0)), (0, gr g 96), (2, .int (iI wh))] [.int (iI x2)] (hp g sh S1) n 0 0 Q := by
    intro S1 x0 x1 x2 kf r1 e r2
    have e22 := r2.1
    refine G_istore (pc := 83) (ls' := [(5, _), (4, _), (3, _), (0, _), (2, _)]) dX10_read_83 (by decide) rfl ?_
    refine S_aload_n (pc := 85) dX10_read_85 rfl ?_
    refine S_getI (pc := 86) dX10_read_86 fX10_189 (by assumption) rfl ?_
    rw [e22]
    refine G_if_ne_t (pc := 89) 103 dX10_read_89 rfl (by omega) (by decide) ?_
    exact Kend S1 x0 x1 x2 r1 (Or.inl ⟨kf, e, r2⟩)
  have K63F : ∀ (S1 : SS) (x0 x1 : Int) (kf : Nat), GrR S S1 → ptx (tkk B) = .inl kf → MtF S1 (tka N B kf) → G g mX10_read 46 0 0 63 [(3, .int (iI x0)), (0, gr g 96), (2, .int (iI wh))] [.int (iI x1)] (hp g sh S1) n 0 0 Q := by
    intro S1 x0 x1 kf r1 e r2
    have e22 := r2.1
    refine G_istore (pc := 63) (ls' := [(4, _), (3, _), (0, _), (2, _)]) dX10_read_63 (by decide) rfl ?_
    refine S_aload_n (pc := 65) dX10_read_65 rfl ?_
    refine S_getI (pc := 66) dX10_read_66 fX10_189 (by assumption) rfl ?_
    rw [e22]
    refine G_if_eq_f (pc := 69) 76 dX10_read_69 rfl (by omega) (by decide) ?_
    refine G_iconst (pc := 72) dX10_read_72 ?_
    refine G_goto (pc := 73) 83 dX10_read_73 rfl ?_
    exact K83F S1 x0 x1 0 kf r1 e r2
  have K44F : ∀ (S1 : SS) (x0 : Int) (kf : Nat), GrR S S1 → ptx (tkk B) = .inl kf → MtF S1 (tka N B kf) → G g mX10_read 46 0 0 44 [(0, gr g 96), (2, .int (iI wh))] [.int (iI x0)] (hp g sh S1) n 0 0 Q := by
    intro S1 x0 kf r1 e r2
    have e22 := r2.1
    refine G_istore_n (pc := 44) (ls' := [(3, _), (0, _), (2, _)]) dX10_read_44 (by decide) rfl ?_
    refine S_aload_n (pc := 45) dX10_read_45 rfl ?_
    refine S_getI (pc := 46) dX10_read_46 fX10_189 (by assumption) rfl ?_
    rw [e22]
    refine G_if_eq_f (pc := 49) 56 dX10_read_49 rfl (by omega) (by decide) ?_
    refine G_iconst (pc := 52) dX10_read_52 ?_
    refine G_goto (pc := 53) 63 dX10_read_53 rfl ?_
    exact K63F S1 x0 0 kf r1 e r2
  have K83S : ∀ (S1 : SS) (k1 k2 k3 : Nat) (l0 l1 l2 : List Int) (x0 x1 x2 : Int), GrR S S1 → prt (tkk B) 260 0 = .inr (k1, l0) → prt (tkk B) 261 k1 = .inr (k2, l1) → prt (tkk B) 262 k2 = .inr (k3, l2) → MtC S1 N B k3 0 → Val env l0 x0 → Val env l1 x1 → Val env l2 x2 → G g mX10_read 46 0 0 83 [(4, .int (iI x1)), (3, .int (iI x0)), (0, gr g 96), (2, .int (iI wh))] [.int (iI x2)] (hp g sh S1) n 0 0 Q := by
    intro S1 k1 k2 k3 l0 l1 l2 x0 x1 x2 r1 p1 p2 p3 r2 v0 v1 v2
    have hC := r2
    obtain ⟨b22, b21, hT, b18, b20⟩ := r2
    have htt := TokR_t hT
    have hpx : ptx (tkk B) = if tkk B k3 = 256 then .inr (l0, l1, l2) else .inl k3 := by
      unfold ptx
      rw [p1]
      show (match prt (tkk B) 261 k1 with | .inl k => _ | .inr (k2, l2) => _) = _
      rw [p2]
      show (match prt (tkk B) 262 k2 with | .inl k => _ | .inr (k3, l3) => _) = _
      rw [p3]
    by_cases c : tkk B k3 = 256
    · rw [if_pos c] at hpx
      have h17 : S1.1 96 17 = 0 := by
        rcases hT with h | h | h | h | h
        · exact h.2
        · have := isg_iff.mp h.1; omega
        · omega
        · have := wco_cod (w := S1.1 96 19); omega
        · omega
      refine G_istore (pc := 83) (ls' := [(5, _), (4, _), (3, _), (0, _), (2, _)]) dX10_read_83 (by decide) rfl ?_
      refine S_aload_n (pc := 85) dX10_read_85 rfl ?_
      refine S_getI (pc := 86) dX10_read_86 fX10_189 (by assumption) rfl ?_
      rw [b22]
      refine G_if_ne_f (pc := 89) 103 dX10_read_89 rfl (by omega) (by decide) ?_
      refine S_aload_n (pc := 92) dX10_read_92 rfl ?_
      refine S_getI (pc := 93) dX10_read_93 fX10_183 (by assumption) rfl ?_
      rw [h17]
      refine G_if_eq_t (pc := 96) 103 dX10_read_96 rfl (by omega) (by decide) ?_
      exact Kend S1 x0 x1 x2 r1 (Or.inr ⟨l0, l1, l2, hpx, b22, v0, v1, v2⟩)
    · rw [if_neg c] at hpx
      have h17 : S1.1 96 17 ≠ 0 := by
        rcases hT with h | h | h | h | h <;> omega
      refine G_istore (pc := 83) (ls' := [(5, _), (4, _), (3, _), (0, _), (2, _)]) dX10_read_83 (by decide) rfl ?_
      refine S_aload_n (pc := 85) dX10_read_85 rfl ?_
      refine S_getI (pc := 86) dX10_read_86 fX10_189 (by assumption) rfl ?_
      rw [b22]
      refine G_if_ne_f (pc := 89) 103 dX10_read_89 rfl (by omega) (by decide) ?_
      refine S_aload_n (pc := 92) dX10_read_92 rfl ?_
      refine S_getI (pc := 93) dX10_read_93 fX10_183 (by assumption) rfl ?_
      refine G_if_eq_f (pc := 96) 103 dX10_read_96 rfl (by omega) (by omega) ?_
      refine S_aload_n (pc := 99) dX10_read_99 rfl ?_
      refine S_callV (pc := 100) (ci := 10) (d2 := 1) (mc2 := 0) (ms2 := 0) (As := []) dX10_read_100 kX10_fail lkX10_199 (by assumption) rfl rfl rfl (Nat.le_of_ble_eq_true rfl) ⟨by decide, by decide⟩ (by decide) ?_
      refine c_X10_failC h96 hC (fun S2 q1 q2 => ?_)
      · show G _ _ _ _ _ _ _ _ _ _ _ _ _
        exact Kend S2 x0 x1 x2 (GrR_tr r1 (GrS_R q1)) (Or.inl ⟨k3, hpx, q2⟩)
  have hYof : ∀ S1 : SS, GrS (setF (setF (setF (setF (setF S 96 15 (160 * t)) 96 16 N) 96 20 0) 96 21 0) 96 22 0) S1 → MtY sh S1 N B env := fun S1 r1 => MtY_gr r1 ⟨hX1, hE1⟩
  have K63S : ∀ (S1 : SS) (k1 k2 : Nat) (l0 l1 : List Int) (x0 x1 : Int), GrS (setF (setF (setF (setF (setF S 96 15 (160 * t)) 96 16 N) 96 20 0) 96 21 0) 96 22 0) S1 → prt (tkk B) 260 0 = .inr (k1, l0) → prt (tkk B) 261 k1 = .inr (k2, l1) → MtC S1 N B k2 0 → (k2 : Int) ≤ N → Val env l0 x0 → Val env l1 x1 → G g mX10_read 46 0 0 63 [(3, .int (iI x0)), (0, gr g 96), (2, .int (iI wh))] [.int (iI x1)] (hp g sh S1) n 0 0 Q := by
    intro S1 k1 k2 l0 l1 x0 x1 r1 p1 p2 r2 rk v0 v1
    have e22 := r2.1
    have hpx : ∀ kf : Nat, prt (tkk B) 262 k2 = .inl kf → ptx (tkk B) = .inl kf := fun kf e => by
      unfold ptx
      rw [p1]
      show (match prt (tkk B) 261 k1 with | .inl k => _ | .inr (k2, l2) => _) = _
      rw [p2]
      show (match prt (tkk B) 262 k2 with | .inl k => _ | .inr (k3, l3) => _) = _
      rw [e]
    refine G_istore (pc := 63) (ls' := [(4, _), (3, _), (0, _), (2, _)]) dX10_read_63 (by decide) rfl ?_
    refine S_aload_n (pc := 65) dX10_read_65 rfl ?_
    refine S_getI (pc := 66) dX10_read_66 fX10_189 (by assumption) rfl ?_
    rw [e22]
    refine G_if_eq_t (pc := 69) 76 dX10_read_69 rfl (by omega) (by decide) ?_
    refine S_aload_n (pc := 76) dX10_read_76 rfl ?_
    refine G_ldcw (pc := 77) (z := 409469) dX10_read_77 coX10_257 rfl ?_
    refine S_callV (pc := 80) (ci := 10) (d2 := 45) (mc2 := 0) (ms2 := 0) (As := [_]) dX10_read_80 kX10_part lkX10_253 (by assumption) rfl rfl rfl (Nat.le_of_ble_eq_true rfl) ⟨by decide, by decide⟩ (by decide) ?_
    refine c_X10_part (hYof S1 r1) r2 rk wco_turn (by decide) (by decide) (fun kf S2 v e q1 q2 qv => ?_) (fun k3 l2 v2 S2 e q1 q2 qk qv => ?_)
    · show G _ _ _ _ _ _ _ _ _ _ _ _ _
      first
        | exact K83F S2 x0 x1 v kf (GrR_tr hR1 (GrS_R (GrS_tr r1 q1))) (hpx kf e) q2
        | exact K83S S2 k1 k2 k3 l0 l1 l2 x0 x1 v2 (GrR_tr hR1 (GrS_R (GrS_tr r1 q1))) p1 p2 e q2 v0 v1 qv
    · show G _ _ _ _ _ _ _ _ _ _ _ _ _
      first
        | exact K83F S2 x0 x1 v kf (GrR_tr hR1 (GrS_R (GrS_tr r1 q1))) (hpx kf e) q2
        | exact K83S S2 k1 k2 k3 l0 l1 l2 x0 x1 v2 (GrR_tr hR1 (GrS_R (GrS_tr r1 q1))) p1 p2 e q2 v0 v1 qv
  have K44S : ∀ (S1 : SS) (k1 : Nat) (l0 : List Int) (x0 : Int), GrS (setF (setF (setF (setF (setF S 96 15 (160 * t)) 96 16 N) 96 20 0) 96 21 0) 96 22 0) S1 → prt (tkk B) 260 0 = .inr (k1, l0) → MtC S1 N B k1 0 → (k1 : Int) ≤ N → Val env l0 x0 → G g mX10_read 46 0 0 44 [(0, gr g 96), (2, .int (iI wh))] [.int (iI x0)] (hp g sh S1) n 0 0 Q := by
    intro S1 k1 l0 x0 r1 p1 r2 rk v0
    have e22 := r2.1
    have hpx : ∀ kf : Nat, prt (tkk B) 261 k1 = .inl kf → ptx (tkk B) = .inl kf := fun kf e => by
      unfold ptx
      rw [p1]
      show (match prt (tkk B) 261 k1 with | .inl k => _ | .inr (k2, l2) => _) = _
      rw [e]
    refine G_istore_n (pc := 44) (ls' := [(3, _), (0, _), (2, _)]) dX10_read_44 (by decide) rfl ?_
    refine S_aload_n (pc := 45) dX10_read_45 rfl ?_
    refine S_getI (pc := 46) dX10_read_46 fX10_189 (by assumption) rfl ?_
    rw [e22]
    refine G_if_eq_t (pc := 49) 56 dX10_read_49 rfl (by omega) (by decide) ?_
    refine S_aload_n (pc := 56) dX10_read_56 rfl ?_
    refine G_ldcw (pc := 57) (z := 10421318) dX10_read_57 coX10_256 rfl ?_
    refine S_callV (pc := 60) (ci := 10) (d2 := 45) (mc2 := 0) (ms2 := 0) (As := [_]) dX10_read_60 kX10_part lkX10_253 (by assumption) rfl rfl rfl (Nat.le_of_ble_eq_true rfl) ⟨by decide, by decide⟩ (by decide) ?_
    refine c_X10_part (hYof S1 r1) r2 rk wco_split (by decide) (by decide) (fun kf S2 v e q1 q2 qv => ?_) (fun k2 l1 v1 S2 e q1 q2 qk qv => ?_)
    · show G _ _ _ _ _ _ _ _ _ _ _ _ _
      first
        | exact K63F S2 x0 v kf (GrR_tr hR1 (GrS_R (GrS_tr r1 q1))) (hpx kf e) q2
        | exact K63S S2 k1 k2 l0 l1 x0 v1 (GrS_tr r1 q1) p1 e q2 qk.2 v0 qv
    · show G _ _ _ _ _ _ _ _ _ _ _ _ _
      first
        | exact K63F S2 x0 v kf (GrR_tr hR1 (GrS_R (GrS_tr r1 q1))) (hpx kf e) q2
        | exact K63S S2 k1 k2 l0 l1 x0 v1 (GrS_tr r1 q1) p1 e q2 qk.2 v0 qv
  have hpx : ∀ kf : Nat, prt (tkk B) 260 0 = .inl kf → ptx (tkk B) = .inl kf := fun kf e => by
    unfold ptx
    rw [e]
  have e22 : ∀ S1 : SS, GrN (setF (setF (setF (setF (setF S 96 15 (160 * t)) 96 16 N) 96 20 0) 96 21 0) 96 22 0) S1 → S1.1 96 22 = 0 ∧ S1.1 96 21 = 0 := fun S1 r => ⟨by rw [r.2 96 22 (by decide), setF_at], by rw [r.2 96 21 (by decide), setF_ne (by decide), setF_at]⟩
  refine S_aload_n (pc := 0) dX10_read_0 rfl ?_
  refine G_sipush (pc := 1) dX10_read_1 rfl ?_
  refine G_iload_n (pc := 4) dX10_read_4 rfl ?_
  refine G_imul (pc := 5) dX10_read_5 ?_
  refine S_putI (pc := 6) dX10_read_6 fX10_171 (by assumption) rfl ⟨rfl, rfl⟩ ?_
  refine S_aload_n (pc := 9) dX10_read_9 rfl ?_
  refine S_aload_n (pc := 10) dX10_read_10 rfl ?_
  refine S_getR (pc := 11) dX10_read_11 fX10_33 (by assumption) rfl (by assumption) ?_
  refine G_iload_n (pc := 14) dX10_read_14 rfl ?_
  refine S_iald (pc := 15) dX10_read_15 (by assumption) (by omega) ?_
  rw [show (setF S 96 15 (160 * t)).2.1 103 t = N from hN]
  refine S_putI (pc := 16) dX10_read_16 fX10_168 (by assumption) rfl ⟨rfl, rfl⟩ ?_
  refine S_aload_n (pc := 19) dX10_read_19 rfl ?_
  refine G_iconst (pc := 20) dX10_read_20 ?_
  refine S_putI (pc := 21) dX10_read_21 fX10_174 (by assumption) rfl ⟨rfl, rfl⟩ ?_
  refine S_aload_n (pc := 24) dX10_read_24 rfl ?_
  refine G_iconst (pc := 25) dX10_read_25 ?_
  refine S_putI (pc := 26) dX10_read_26 fX10_196 (by assumption) rfl ⟨rfl, rfl⟩ ?_
  refine S_aload_n (pc := 29) dX10_read_29 rfl ?_
  refine G_iconst (pc := 30) dX10_read_30 ?_
  refine S_putI (pc := 31) dX10_read_31 fX10_189 (by assumption) rfl ⟨rfl, rfl⟩ ?_
  refine S_aload_n (pc := 34) dX10_read_34 rfl ?_
  refine S_callV (pc := 35) (ci := 10) (d2 := 2) (mc2 := 0) (ms2 := 0) (As := []) dX10_read_35 kX10_next lkX10_202 (by assumption) rfl rfl rfl (Nat.le_of_ble_eq_true rfl) ⟨by decide, by decide⟩ (by decide) ?_
  refine c_X10_next hX1 (h := 0) (by omega) (by rw [setF_ne (by decide), setF_ne (by decide), setF_at]) rfl (fun S1 r1 r2 r3 r4 => ?_)
  · show G _ _ _ _ _ _ _ _ _ _ _ _ _
    refine S_aload_n (pc := 38) dX10_read_38 rfl ?_
    refine G_ldc (pc := 39) (z := 8740238) dX10_read_39 coX10_252 rfl ?_
    refine S_callV (pc := 41) (ci := 10) (d2 := 45) (mc2 := 0) (ms2 := 0) (As := [_]) dX10_read_41 kX10_part lkX10_253 (by assumption) rfl rfl rfl (Nat.le_of_ble_eq_true rfl) ⟨by decide, by decide⟩ (by decide) ?_
    refine c_X10_part (k := 0) (hYof S1 (GrN_S r1)) ⟨(e22 S1 r1).1, (e22 S1 r1).2, r2, r3, r4⟩ (by omega) wco_plain (by decide) (by decide) (fun kf S2 v e q1 q2 qv => ?_) (fun k1 l0 v0 S2 e q1 q2 qk qv => ?_)
    · show G _ _ _ _ _ _ _ _ _ _ _ _ _
      refine G_ls (ls' := [(0, _), (2, _)]) (lsub_c rfl (lsub_c rfl lsub_n)) ?_
      first
        | exact K44F S2 v kf (GrR_tr hR1 (GrS_R (GrS_tr (GrN_S r1) q1))) (hpx kf e) q2
        | exact K44S S2 k1 l0 v0 (GrS_tr (GrN_S r1) q1) e q2 qk.2 qv
    · show G _ _ _ _ _ _ _ _ _ _ _ _ _
      refine G_ls (ls' := [(0, _), (2, _)]) (lsub_c rfl (lsub_c rfl lsub_n)) ?_
      first
        | exact K44F S2 v kf (GrR_tr hR1 (GrS_R (GrS_tr (GrN_S r1) q1))) (hpx kf e) q2
        | exact K44S S2 k1 l0 v0 (GrS_tr (GrN_S r1) q1) e q2 qk.2 qv
/-- what the NAMES stand for -/
def wenv (n m cut kd sm : Int) : Int → Int := fun i => if i = 0 then n else if i = 1 then m else if i = 2 then (if m < n then n else m) else if i = 3 then cut else if i = 4 then kd else if i = 5 then sm else 0
def wprt (kd : Int) : Int := if kd = 0 then 0 else if kd = 3 ∨ kd = 5 then 2 else 1
def tprt (x : List Int × List Int × List Int) (i : Int) : List Int := if i = 0 then x.1 else if i = 1 then x.2.1 else x.2.2
def sayv (env : Int → Int) (l : List Int) : Int := (rnn env l []).headD 0
theorem Val_say {env : Int → Int} {l : List Int} {v : Int} (h : Val env l v) : sayv env l = v := by unfold sayv; rw [h.1]; rfl
set_option maxRecDepth 100000 in
set_option maxHeartbeats 4000000 in
theorem c_X10_saysOf {g : GC} {p w wy a b tc ru kd cut : Int} {sh : SH} {S : SS} {n : Nat} {X : List Int × List Int × List Int} {env : Int → Int} {Q : Option Value → GA → Nat → Prop} (hW : MdW p sh S) (hV : MvW sh S w) (hM : MxW sh S tc ru) (ha : 0 ≤ a ∧ a < 8) (hb : 0 ≤ b ∧ b < 8) (sa : Sup (mg S a) 32) (sb : Sup (mg S b) 32) (hwy : 0 ≤ wy ∧ wy < w) (hkd : S.2.1 98 wy = kd) (hcut : S.2.1 99 wy = cut)
    (hX : ptx (tkk (mtB S ru)) = .inr X) (henv : env = wenv (plen (mg S a) 80) (plen (mg S b) 80) cut kd (smf (mg S a) (mg S b)))
    (hq : ∀ S' : SS, GrR S S' → Val env (tprt X (wprt kd)) (sayv env (tprt X (wprt kd))) → Q (some (.int (iI (sayv env (tprt X (wprt kd)))))) (hp g sh S') n) : GCall g mX10_saysOf 47 0 0 [gr g 96, .int (iI wy), .int (iI a), .int (iI b)] (hp g sh S) n Q := by
  have hV' := hV
  obtain ⟨h96, q4, q5, h98, h99, hw, hwb, r98, r99⟩ := hV'
  have hM' := hM
  obtain ⟨-, q9, q10, h102, h103, e11, e12, htc, hru, r102, r103⟩ := hM'
  have hk := r98 wy
  have hc := r99 wy
  rw [hkd] at hk
  rw [hcut] at hc
  have hla := plen_bd (mg S a) 80
  have hlb := plen_bd (mg S b) 80
  have hsm := smf_bd (A := mg S a) (B := mg S b)
  refine GCall.of (by decide) (Nat.le_of_ble_eq_true rfl) (ls := [(0, _), (1, _), (2, _), (3, _)]) rfl ?_
  have ss : ∀ S1 : SS, GrR S S1 → S1.2 = S.2 ∧ MdW p sh S1 ∧ S1.2.1 99 wy = cut ∧ S1.2.1 98 wy = kd ∧ MxW sh S1 tc ru := fun S1 r => by
    refine ⟨r.1, ?_, by rw [r.1]; exact hcut, by rw [r.1]; exact hkd, ?_⟩
    · obtain ⟨hP, h96, hp1, p2, h97, hred⟩ := hW
      exact ⟨hP, h96, by rw [r.2 96 1 (by decide)]; exact hp1, by rw [r.1]; exact p2, h97, by rw [r.1]; exact hred⟩
    · exact ⟨h96, by rw [r.1]; exact q9, by rw [r.1]; exact q10, h102, h103, by rw [r.2 96 11 (by decide)]; exact e11, by rw [r.2 96 12 (by decide)]; exact e12, htc, hru, by rw [r.1]; exact r102, by rw [r.1]; exact r103⟩
  have mgs : ∀ (S1 : SS) (r : Int), GrR S S1 → mg S1 r = mg S r := fun S1 r h => by unfold mg; rw [h.1]
  have G1 : GrR S (setF S 96 24 (plen (mg S a) 80)) := GrR_F GrR_rf (by decide)
  have G2 : GrR S (setF (setF S 96 24 (plen (mg S a) 80)) 96 25 (plen (mg S b) 80)) := GrR_F G1 (by decide)
  have G3 : GrR S (setF (setF (setF S 96 24 (plen (mg S a) 80)) 96 25 (plen (mg S b) 80)) 96 26 cut) := GrR_F G2 (by decide)
  have G4 : GrR S (setF (setF (setF (setF S 96 24 (plen (mg S a) 80)) 96 25 (plen (mg S b) 80)) 96 26 cut) 96 27 kd) := GrR_F G3 (by decide)
  have G5 : GrR S (setF (setF (setF (setF (setF S 96 24 (plen (mg S a) 80)) 96 25 (plen (mg S b) 80)) 96 26 cut) 96 27 kd) 96 28 (smf (mg S a) (mg S b))) := GrR_F G4 (by decide)
  have E5 : MtE (setF (setF (setF (setF (setF S 96 24 (plen (mg S a) 80)) 96 25 (plen (mg S b) 80)) 96 26 cut) 96 27 kd) 96 28 (smf (mg S a) (mg S b))) env := by
    refine ⟨?_, ?_, ?_, ?_, ?_, ?_, fun i => ?_⟩
    · rw [setF_ne (by decide), setF_ne (by decide), setF_ne (by decide), setF_ne (by decide), setF_at, henv]; rfl
    · rw [setF_ne (by decide), setF_ne (by decide), setF_ne (by decide), setF_at, henv]; rfl
    · rw [henv]; rfl
    · rw [setF_ne (by decide), setF_ne (by decide), setF_at, henv]; rfl
    · rw [setF_ne (by decide), setF_at, henv]; rfl
    · rw [setF_at, henv]; rfl
    · rw [henv]
      unfold wenv
      repeat' split
      all_goals omega
  have hgo : ∀ wh : Int, wh = wprt kd → G g mX10_saysOf 47 0 0 99 [(0, gr g 96), (1, .int (iI wy)), (2, .int (iI a)), (3, .int (iI b))] [.int (iI wh), .int (iI ru), gr g 96] (hp g sh (setF (setF (setF (setF (setF S 96 24 (plen (mg S a) 80)) 96 25 (plen (mg S b) 80)) 96 26 cut) 96 27 kd) 96 28 (smf (mg S a) (mg S b)))) n 0 0 Q := by
    intro wh hwh
    have hwb2 : 0 ≤ wh ∧ wh ≤ 2 := by rw [hwh]; unfold wprt; repeat' split <;> omega
    have ex : mtB (setF (setF (setF (setF (setF S 96 24 (plen (mg S a) 80)) 96 25 (plen (mg S b) 80)) 96 26 cut) 96 27 kd) 96 28 (smf (mg S a) (mg S b))) ru = mtB S ru := rfl
    refine S_callV (pc := 99) (ci := 10) (d2 := 46) (mc2 := 0) (ms2 := 0) (As := [_, _]) dX10_saysOf_99 kX10_read lkX10_261 (by assumption) rfl rfl rfl (Nat.le_of_ble_eq_true rfl) ⟨by decide, by decide⟩ (by decide) ?_
    refine c_X10_read (ss _ G5).2.2.2.2 E5 (by omega) hwb2 rfl ex (fun kf S' v e r1 r2 => ?_) (fun l0 l1 l2 v S' e r1 r2 r3 => ?_)
    · show G _ _ _ _ _ _ _ _ _ _ _ _ _
      refine G_iret (pc := 102) dX10_saysOf_102 rfl (by decide) ?_
      first
        | (rw [hX] at e; cases e; done)
        | (rw [hX] at e
           obtain ⟨rfl⟩ : X = (l0, l1, l2) := Sum.inr.inj e
           rw [hwh] at r3
           have ev := Val_say r3
           have hq2 := hq S' (GrR_tr G5 r1) (by show Val env (if wprt kd = 0 then l0 else if wprt kd = 1 then l1 else l2) (sayv env (if wprt kd = 0 then l0 else if wprt kd = 1 then l1 else l2)); rw [ev]; exact r3)
           rw [← ev]
           exact hq2)
    · show G _ _ _ _ _ _ _ _ _ _ _ _ _
      refine G_iret (pc := 102) dX10_saysOf_102 rfl (by decide) ?_
      first
        | (rw [hX] at e; cases e; done)
        | (rw [hX] at e
           obtain ⟨rfl⟩ : X = (l0, l1, l2) := Sum.inr.inj e
           rw [hwh] at r3
           have ev := Val_say r3
           have hq2 := hq S' (GrR_tr G5 r1) (by show Val env (if wprt kd = 0 then l0 else if wprt kd = 1 then l1 else l2) (sayv env (if wprt kd = 0 then l0 else if wprt kd = 1 then l1 else l2)); rw [ev]; exact r3)
           rw [← ev]
           exact hq2)
  have hnar : narrow .boolean (.int (iI (smf (mg S a) (mg S b)))) = .int (iI (smf (mg S a) (mg S b))) := by rcases hsm with e | e <;> rw [e] <;> first | exact nar_z0 | exact nar_z1
  have h96' := h96
  have p2 := hW.2.2.2.1
  have eR : ∀ v : Int, (setF (setF (setF (setF (setF S 96 24 (plen (mg S a) 80)) 96 25 (plen (mg S b) 80)) 96 26 cut) 96 27 kd) 96 28 v).1 96 12 = ru := fun v => by rw [setF_ne (by decide), setF_ne (by decide), setF_ne (by decide), setF_ne (by decide), setF_ne (by decide)]; exact e12
  have eK : ∀ v : Int, (setF (setF (setF (setF (setF S 96 24 (plen (mg S a) 80)) 96 25 (plen (mg S b) 80)) 96 26 cut) 96 27 kd) 96 28 v).2.1 98 wy = kd := fun v => hkd
  refine S_aload_n (pc := 0) dX10_saysOf_0 rfl ?_
  refine S_aload_n (pc := 1) dX10_saysOf_1 rfl ?_
  refine G_iload_n (pc := 2) dX10_saysOf_2 rfl ?_
  refine S_callV (pc := 3) (ci := 10) (d2 := 1) (mc2 := 0) (ms2 := 0) (As := [_]) dX10_saysOf_3 kX10_length lkX10_94 (by assumption) rfl rfl rfl (Nat.le_of_ble_eq_true rfl) ⟨by decide, by decide⟩ (by decide) ?_
  refine c_X10_length hW (by omega) ?_
  show G _ _ _ _ _ _ _ _ _ _ _ _ _
  refine S_putI (pc := 6) dX10_saysOf_6 fX10_205 (by assumption) rfl ⟨rfl, rfl⟩ ?_
  refine S_aload_n (pc := 9) dX10_saysOf_9 rfl ?_
  refine S_aload_n (pc := 10) dX10_saysOf_10 rfl ?_
  refine G_iload_n (pc := 11) dX10_saysOf_11 rfl ?_
  refine S_callV (pc := 12) (ci := 10) (d2 := 1) (mc2 := 0) (ms2 := 0) (As := [_]) dX10_saysOf_12 kX10_length lkX10_94 (by assumption) rfl rfl rfl (Nat.le_of_ble_eq_true rfl) ⟨by decide, by decide⟩ (by decide) ?_
  refine c_X10_length (ss _ G1).2.1 (by omega) ?_
  rw [mgs _ _ G1]
  show G _ _ _ _ _ _ _ _ _ _ _ _ _
  refine S_putI (pc := 15) dX10_saysOf_15 fX10_208 (by assumption) rfl ⟨rfl, rfl⟩ ?_
  refine S_aload_n (pc := 18) dX10_saysOf_18 rfl ?_
  refine S_aload_n (pc := 19) dX10_saysOf_19 rfl ?_
  refine S_getR (pc := 20) dX10_saysOf_20 fX10_20 (by assumption) rfl (by assumption) ?_
  refine G_iload_n (pc := 23) dX10_saysOf_23 rfl ?_
  refine S_iald (pc := 24) dX10_saysOf_24 (by assumption) (by omega) ?_
  rw [(ss _ G2).2.2.1]
  refine S_putI (pc := 25) dX10_saysOf_25 fX10_211 (by assumption) rfl ⟨rfl, rfl⟩ ?_
  refine S_aload_n (pc := 28) dX10_saysOf_28 rfl ?_
  refine S_aload_n (pc := 29) dX10_saysOf_29 rfl ?_
  refine S_getR (pc := 30) dX10_saysOf_30 fX10_17 (by assumption) rfl (by assumption) ?_
  refine G_iload_n (pc := 33) dX10_saysOf_33 rfl ?_
  refine S_iald (pc := 34) dX10_saysOf_34 (by assumption) (by omega) ?_
  rw [(ss _ G3).2.2.2.1]
  refine S_putI (pc := 35) dX10_saysOf_35 fX10_214 (by assumption) rfl ⟨rfl, rfl⟩ ?_
  refine S_aload_n (pc := 38) dX10_saysOf_38 rfl ?_
  refine S_aload_n (pc := 39) dX10_saysOf_39 rfl ?_
  refine G_iload_n (pc := 40) dX10_saysOf_40 rfl ?_
  refine G_iload_n (pc := 41) dX10_saysOf_41 rfl ?_
  refine S_callV (pc := 42) (ci := 10) (d2 := 1) (mc2 := 0) (ms2 := 0) (As := [_, _]) dX10_saysOf_42 kX10_same lkX10_124 (by assumption) rfl rfl rfl (Nat.le_of_ble_eq_true rfl) ⟨by decide, by decide⟩ (by decide) ?_
  refine c_X10_same (ss _ G4).2.1 ha hb (by rw [mgs _ _ G4]; exact sa) (by rw [mgs _ _ G4]; exact sb) ?_
  rw [mgs _ _ G4, mgs _ _ G4]
  show G _ _ _ _ _ _ _ _ _ _ _ _ _
  refine G_if_eq (pc := 45) 52 dX10_saysOf_45 rfl (by omega) (fun c45 => ?_) (fun c45 => ?_)
  · skip
    refine G_iconst (pc := 52) dX10_saysOf_52 ?_
    first | rw [show (1 : Int) = smf (mg S a) (mg S b) by omega] | rw [show (0 : Int) = smf (mg S a) (mg S b) by omega]
    refine S_putI (pc := 53) dX10_saysOf_53 fX10_217 (by assumption) rfl ⟨rfl, rfl⟩ ?_
    refine S_aload_n (pc := 56) dX10_saysOf_56 rfl ?_
    refine S_aload_n (pc := 57) dX10_saysOf_57 rfl ?_
    refine S_getI (pc := 58) dX10_saysOf_58 fX10_258 (by assumption) rfl ?_
    rw [eR]
    refine S_aload_n (pc := 61) dX10_saysOf_61 rfl ?_
    refine S_getR (pc := 62) dX10_saysOf_62 fX10_17 (by assumption) rfl (by assumption) ?_
    refine G_iload_n (pc := 65) dX10_saysOf_65 rfl ?_
    refine S_iald (pc := 66) dX10_saysOf_66 (by assumption) (by omega) ?_
    rw [eK]
    refine G_if_ne (pc := 67) 74 dX10_saysOf_67 rfl (by omega) (fun c67 => ?_) (fun c67 => ?_)
    · skip
      refine S_aload_n (pc := 74) dX10_saysOf_74 rfl ?_
      refine S_getR (pc := 75) dX10_saysOf_75 fX10_17 (by assumption) rfl (by assumption) ?_
      refine G_iload_n (pc := 78) dX10_saysOf_78 rfl ?_
      refine S_iald (pc := 79) dX10_saysOf_79 (by assumption) (by omega) ?_
      rw [eK]
      refine G_iconst (pc := 80) dX10_saysOf_80 ?_
      refine G_icmp_eq (pc := 81) 94 dX10_saysOf_81 rfl (by omega) (fun c81 => ?_) (fun c81 => ?_)
      · skip
        refine G_iconst (pc := 94) dX10_saysOf_94 ?_
        refine G_goto (pc := 95) 99 dX10_saysOf_95 rfl ?_
        first
          | exact hgo _ (by unfold wprt; rw [if_pos (by omega)])
          | exact hgo _ (by unfold wprt; rw [if_neg (by omega), if_pos (by omega)])
          | exact hgo _ (by unfold wprt; rw [if_neg (by omega), if_neg (by omega)])
      · skip
        refine S_aload_n (pc := 84) dX10_saysOf_84 rfl ?_
        refine S_getR (pc := 85) dX10_saysOf_85 fX10_17 (by assumption) rfl (by assumption) ?_
        refine G_iload_n (pc := 88) dX10_saysOf_88 rfl ?_
        refine S_iald (pc := 89) dX10_saysOf_89 (by assumption) (by omega) ?_
        rw [eK]
        refine G_iconst (pc := 90) dX10_saysOf_90 ?_
        refine G_icmp_ne (pc := 91) 98 dX10_saysOf_91 rfl (by omega) (fun c91 => ?_) (fun c91 => ?_)
        · skip
          refine G_iconst (pc := 98) dX10_saysOf_98 ?_
          first
            | exact hgo _ (by unfold wprt; rw [if_pos (by omega)])
            | exact hgo _ (by unfold wprt; rw [if_neg (by omega), if_pos (by omega)])
            | exact hgo _ (by unfold wprt; rw [if_neg (by omega), if_neg (by omega)])
        · skip
          refine G_iconst (pc := 94) dX10_saysOf_94 ?_
          refine G_goto (pc := 95) 99 dX10_saysOf_95 rfl ?_
          first
            | exact hgo _ (by unfold wprt; rw [if_pos (by omega)])
            | exact hgo _ (by unfold wprt; rw [if_neg (by omega), if_pos (by omega)])
            | exact hgo _ (by unfold wprt; rw [if_neg (by omega), if_neg (by omega)])
    · skip
      refine G_iconst (pc := 70) dX10_saysOf_70 ?_
      refine G_goto (pc := 71) 99 dX10_saysOf_71 rfl ?_
      first
        | exact hgo _ (by unfold wprt; rw [if_pos (by omega)])
        | exact hgo _ (by unfold wprt; rw [if_neg (by omega), if_pos (by omega)])
        | exact hgo _ (by unfold wprt; rw [if_neg (by omega), if_neg (by omega)])
  · skip
    refine G_iconst (pc := 48) dX10_saysOf_48 ?_
    refine G_goto (pc := 49) 53 dX10_saysOf_49 rfl ?_
    first | rw [show (1 : Int) = smf (mg S a) (mg S b) by omega] | rw [show (0 : Int) = smf (mg S a) (mg S b) by omega]
    refine S_putI (pc := 53) dX10_saysOf_53 fX10_217 (by assumption) rfl ⟨rfl, rfl⟩ ?_
    refine S_aload_n (pc := 56) dX10_saysOf_56 rfl ?_
    refine S_aload_n (pc := 57) dX10_saysOf_57 rfl ?_
    refine S_getI (pc := 58) dX10_saysOf_58 fX10_258 (by assumption) rfl ?_
    rw [eR]
    refine S_aload_n (pc := 61) dX10_saysOf_61 rfl ?_
    refine S_getR (pc := 62) dX10_saysOf_62 fX10_17 (by assumption) rfl (by assumption) ?_
    refine G_iload_n (pc := 65) dX10_saysOf_65 rfl ?_
    refine S_iald (pc := 66) dX10_saysOf_66 (by assumption) (by omega) ?_
    rw [eK]
    refine G_if_ne (pc := 67) 74 dX10_saysOf_67 rfl (by omega) (fun c67 => ?_) (fun c67 => ?_)
    · skip
      refine S_aload_n (pc := 74) dX10_saysOf_74 rfl ?_
      refine S_getR (pc := 75) dX10_saysOf_75 fX10_17 (by assumption) rfl (by assumption) ?_
      refine G_iload_n (pc := 78) dX10_saysOf_78 rfl ?_
      refine S_iald (pc := 79) dX10_saysOf_79 (by assumption) (by omega) ?_
      rw [eK]
      refine G_iconst (pc := 80) dX10_saysOf_80 ?_
      refine G_icmp_eq (pc := 81) 94 dX10_saysOf_81 rfl (by omega) (fun c81 => ?_) (fun c81 => ?_)
      · skip
        refine G_iconst (pc := 94) dX10_saysOf_94 ?_
        refine G_goto (pc := 95) 99 dX10_saysOf_95 rfl ?_
        first
          | exact hgo _ (by unfold wprt; rw [if_pos (by omega)])
          | exact hgo _ (by unfold wprt; rw [if_neg (by omega), if_pos (by omega)])
          | exact hgo _ (by unfold wprt; rw [if_neg (by omega), if_neg (by omega)])
      · skip
        refine S_aload_n (pc := 84) dX10_saysOf_84 rfl ?_
        refine S_getR (pc := 85) dX10_saysOf_85 fX10_17 (by assumption) rfl (by assumption) ?_
        refine G_iload_n (pc := 88) dX10_saysOf_88 rfl ?_
        refine S_iald (pc := 89) dX10_saysOf_89 (by assumption) (by omega) ?_
        rw [eK]
        refine G_iconst (pc := 90) dX10_saysOf_90 ?_
        refine G_icmp_ne (pc := 91) 98 dX10_saysOf_91 rfl (by omega) (fun c91 => ?_) (fun c91 => ?_)
        · skip
          refine G_iconst (pc := 98) dX10_saysOf_98 ?_
          first
            | exact hgo _ (by unfold wprt; rw [if_pos (by omega)])
            | exact hgo _ (by unfold wprt; rw [if_neg (by omega), if_pos (by omega)])
            | exact hgo _ (by unfold wprt; rw [if_neg (by omega), if_neg (by omega)])
        · skip
          refine G_iconst (pc := 94) dX10_saysOf_94 ?_
          refine G_goto (pc := 95) 99 dX10_saysOf_95 rfl ?_
          first
            | exact hgo _ (by unfold wprt; rw [if_pos (by omega)])
            | exact hgo _ (by unfold wprt; rw [if_neg (by omega), if_pos (by omega)])
            | exact hgo _ (by unfold wprt; rw [if_neg (by omega), if_neg (by omega)])
    · skip
      refine G_iconst (pc := 70) dX10_saysOf_70 ?_
      refine G_goto (pc := 71) 99 dX10_saysOf_71 rfl ?_
      first
        | exact hgo _ (by unfold wprt; rw [if_pos (by omega)])
        | exact hgo _ (by unfold wprt; rw [if_neg (by omega), if_pos (by omega)])
        | exact hgo _ (by unfold wprt; rw [if_neg (by omega), if_neg (by omega)])
