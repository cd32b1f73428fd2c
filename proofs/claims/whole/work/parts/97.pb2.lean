/-! PolyBench: sum, divide, gcd, cofactor, compose, move, order, root -/
theorem Sup_up {xs : Int → Int} {N M : Nat} (h : Sup xs N) (hN : N ≤ M) : Sup xs M := fun j hj => h j (by omega)
theorem padd_S {p f : Int} {t a : Int → Int} {N : Nat} (ht : Red p t) (hs : Sup t N) (ha : Sup a N) : Sup (padd p t f a 0) N := padd_sup (la := N) ht hs (Int.le_refl _) ha (by omega)
theorem pmove_ok {p b : Int} {xs : Int → Int} {N : Nat} (hp : 0 < p) (h : Sup xs N) (hr : Red p xs) : Sup (pmove p b xs N) N ∧ Red p (pmove p b xs N) := by
  unfold pmove
  refine ⟨?_, mvout_red hp hr _⟩
  have hb := plen_bd xs N
  by_cases c : 1 ≤ plen xs N
  · exact mvout_sup h hb.2 _ (by omega)
  · rw [show (plen xs N - 1).toNat = 0 by omega]
    exact h
theorem clip_up {xs : Int → Int} {N M : Nat} (h : Sup xs N) (hN : N ≤ M) : clip M xs = xs := clip_id (Sup_up h hN)
theorem AlgW_row {p : Int} {sh : SH} {S : SS} {a : Nat} {xs : Int → Int} (h : AlgW p sh S) (ha : a = 14 ∨ a = 16 ∨ a = 18) (h1 : Sup xs 64) (h2 : Red p xs) : AlgW p sh (rput S a xs 64) := by
  obtain ⟨⟨a1, a2, a3, a4, a5, a6, a7, a8, r14, r16, r18, r20⟩, o, w, f, v, hE⟩ := h
  have hE' : EuP p sh (rput S a xs 64) o w f v := EuP_ne hE (pAll hE.2.2.2.2.1 (by omega))
  have b2 : IsRests p sh (rput S a xs 64) 12 := IsRests_put a2
  rcases ha with e | e | e
  · subst e
    exact ⟨⟨a1, b2, a3, a4, a5, a6, a7, a8, Row_put r14 h1 h2, Row_ne r16 (by decide), Row_ne r18 (by decide), Row_ne r20 (by decide)⟩, o, w, f, v, hE'⟩
  · subst e
    exact ⟨⟨a1, b2, a3, a4, a5, a6, a7, a8, Row_ne r14 (by decide), Row_put r16 h1 h2, Row_ne r18 (by decide), Row_ne r20 (by decide)⟩, o, w, f, v, hE'⟩
  · subst e
    exact ⟨⟨a1, b2, a3, a4, a5, a6, a7, a8, Row_ne r14 (by decide), Row_ne r16 (by decide), Row_put r18 h1 h2, Row_ne r20 (by decide)⟩, o, w, f, v, hE'⟩
theorem PbE_bec {p t : Int} {sh : SH} {S S1 : SS} {b M : Nat} (hW : PbW p sh S1) (hs : Same D1 S S1) (he : ∀ i : Int, 0 ≤ i → i < 8 → pr S1 i = pr S i) (ht : 0 ≤ t ∧ t < 8) (hb : Row p sh S1 b M) : PbE p sh S t (clip 32 (rv S1 b)) (rput S1 (pl t) (clip 32 (rv S1 b)) 32) :=
  PbE_tr (PbE_put hW ht clip_sup (clip_red (by have := hW.2.1.1.1.bd; omega) hb.2.2.2.2)) hs he
set_option maxRecDepth 100000 in
set_option maxHeartbeats 4000000 in
theorem c_X9_sum {g : GC} {p t a v b : Int} {sh : SH} {S : SS} {n : Nat} {Q : Option Value → GA → Nat → Prop} (hW : PbW p sh S) (hr : (-2147483648 ≤ t ∧ t ≤ 2147483647) ∧ (-2147483648 ≤ a ∧ a ≤ 2147483647) ∧ (-2147483648 ≤ v ∧ v ≤ 2147483647) ∧ (-2147483648 ≤ b ∧ b ≤ 2147483647)) (h0 : ¬ ((0 ≤ t ∧ t < 8) ∧ (0 ≤ a ∧ a < 8) ∧ (0 ≤ b ∧ b < 8)) → Q (some (.int (iI (-2)))) (hp g sh S) n) (h1 : (0 ≤ t ∧ t < 8) → (0 ≤ a ∧ a < 8) → (0 ≤ b ∧ b < 8) → ∀ S' : SS, PbE p sh S t (padd p (pr S b) (v % p) (pr S a) 0) S' → Q (some (.int (iI (plen (padd p (pr S b) (v % p) (pr S a) 0) 32)))) (hp g sh S') n) : GCall g mX9_sum 5 0 0 [gr g 0, .int (iI t), .int (iI a), .int (iI v), .int (iI b)] (hp g sh S) n Q := by
  have hW' := hW
  obtain ⟨hK, hA, hMd, hPo⟩ := hW'
  obtain ⟨k0, q0, q1, q2, q3, q4, q7, q8, q9, q12, q13, q14, s1, s4, s9, s10, s11, f1, f2, f3⟩ := hK
  have hP := hA.1.1
  have hRs := hA.1.2.1
  have hpb := hP.bd
  have h12 := hRs.1
  have h13 := hA.1.2.2.1
  have h2s := hMd.1.1
  refine GCall.of (by decide) (Nat.le_of_ble_eq_true rfl) (ls := [(0, _), (1, _), (2, _), (3, _), (4, _)]) rfl ?_
  have hv := Int.emod_nonneg v (show p ≠ 0 by omega)
  have hv2 := Int.emod_lt_of_pos v (show 0 < p by omega)
  by_cases c : (0 ≤ t ∧ t < 8) ∧ (0 ≤ a ∧ a < 8) ∧ (0 ≤ b ∧ b < 8)
  · obtain ⟨ct, ca, cb⟩ := c
    have rA := hPo a ca.1 ca.2
    have rB := hPo b cb.1 cb.2
    have eB : clip 64 (rv S (pl b)) = pr S b := clip_up rB.2.2.2.1 (by decide)
    obtain ⟨W1, s1', e1⟩ := PbW_put (xs := clip 64 (rv S (pl b))) hW clip_sup (clip_red (by omega) rB.2.2.2.2)
    have rM1 := W1.2.2.1
    have rA1 := W1.2.2.2 a ca.1 ca.2
    have ev1 : rv (rput S 2 (clip 64 (rv S (pl b))) 64) 2 = pr S b := rput_rv.trans eB
    have ea1 : rv (rput S 2 (clip 64 (rv S (pl b))) 64) (pl a) = pr S a := e1 a ca.1 ca.2
    have hX : Sup (padd p (pr S b) (v % p) (pr S a) 0) 32 := padd_S rB.2.2.2.2 rB.2.2.2.1 rA.2.2.2.1
    obtain ⟨W2, s2', e2⟩ := PbW_put (xs := padd p (pr S b) (v % p) (pr S a) 0) W1 (Sup_up hX (by decide)) (padd_red (by omega))
    have rM2 := W2.2.2.1
    have ev2 : rv (rput (rput S 2 (clip 64 (rv S (pl b))) 64) 2 (padd p (pr S b) (v % p) (pr S a) 0) 64) 2 = padd p (pr S b) (v % p) (pr S a) 0 := rput_rv
    have hE := PbE_bec W2 (Same_tr s1' s2') (fun i x y => (e2 i x y).trans (e1 i x y)) ct rM2
    rw [ev2, clip_len hX] at hE
    have hl1 : (rput S 2 (clip 64 (rv S (pl b))) 64).1 (pl a) 1 + 0 ≤ 64 := by
      rw [rA1.2.2.1]
      have := plen_bd (rv (rput S 2 (clip 64 (rv S (pl b))) 64) (pl a)) 32
      omega
    refine G_iload_n (pc := 0) dX9_sum_0 rfl ?_
    refine G_iload_n (pc := 1) dX9_sum_1 rfl ?_
    refine G_iload (pc := 2) dX9_sum_2 rfl ?_
    refine G_callS (pc := 4) (d2 := 3) (mc2 := 0) (ms2 := 0) (As := [_, _, _]) dX9_sum_4 kX9_arePolys lkX9_132 rfl rfl (Nat.le_of_ble_eq_true rfl) ⟨by decide, by decide⟩ (by decide) ?_
    refine c_X9_arePolys (by omega) (fun _ => ?_) (fun z => absurd ⟨ct, ca, cb⟩ z)
    · show G _ _ _ _ _ _ _ _ _ _ _ _ _
      refine G_if_ne_t (pc := 7) 13 dX9_sum_7 rfl (by decide) (by decide) ?_
      refine S_aload_n (pc := 13) dX9_sum_13 rfl ?_
      refine S_getR (pc := 14) dX9_sum_14 fX9_18 (by assumption) rfl (by assumption) ?_
      refine S_aload_n (pc := 17) dX9_sum_17 rfl ?_
      refine S_getR (pc := 18) dX9_sum_18 fX9_11 (by assumption) rfl (by assumption) ?_
      refine G_iload (pc := 21) dX9_sum_21 rfl ?_
      refine S_aald (pc := 23) dX9_sum_23 (by assumption) rfl (by omega) (f1 _ cb.1 cb.2) ?_
      refine S_callV (pc := 24) (ci := 4) (d2 := 3) (mc2 := 0) (ms2 := 0) (As := [_]) dX9_sum_24 kX4_copy lkX9_136 (by assumption) rfl rfl rfl (Nat.le_of_ble_eq_true rfl) ⟨by decide, by decide⟩ (by decide) ?_
      refine c_X4_copy hMd rB (pl_ne (by decide)) (by omega) ?_
      show G _ _ _ _ _ _ _ _ _ _ _ _ _
      refine S_aload_n (pc := 27) dX9_sum_27 rfl ?_
      refine S_getR (pc := 28) dX9_sum_28 fX9_63 (by assumption) rfl (by assumption) ?_
      refine S_aload_n (pc := 31) dX9_sum_31 rfl ?_
      refine S_getR (pc := 32) dX9_sum_32 fX9_18 (by assumption) rfl (by assumption) ?_
      refine S_aload_n (pc := 35) dX9_sum_35 rfl ?_
      refine S_getR (pc := 36) dX9_sum_36 fX9_54 (by assumption) rfl (by assumption) ?_
      refine G_iload_n (pc := 39) dX9_sum_39 rfl ?_
      refine G_i2l (pc := 40) dX9_sum_40 (by omega) ?_
      refine S_callV (pc := 41) (ci := 3) (d2 := 1) (mc2 := 0) (ms2 := 0) (As := [_]) dX9_sum_41 kX3_rest lkX9_119 (by assumption) rfl rfl rfl (Nat.le_of_ble_eq_true rfl) ⟨by decide, by decide⟩ (by decide) ?_
      refine c_X3_rest W1.2.1.1.2.1 hP (by omega) ?_
      show G _ _ _ _ _ _ _ _ _ _ _ _ _
      refine S_aload_n (pc := 44) dX9_sum_44 rfl ?_
      refine S_getR (pc := 45) dX9_sum_45 fX9_11 (by assumption) rfl (by assumption) ?_
      refine G_iload_n (pc := 48) dX9_sum_48 rfl ?_
      refine S_aald (pc := 49) dX9_sum_49 (by assumption) rfl (by omega) (f1 _ ca.1 ca.2) ?_
      refine G_iconst (pc := 50) dX9_sum_50 ?_
      refine S_callV (pc := 51) (ci := 0) (d2 := 2) (mc2 := 0) (ms2 := 0) (As := [_, _, _, _]) dX9_sum_51 kX0_addMultiple lkX9_140 (by assumption) rfl rfl rfl (Nat.le_of_ble_eq_true rfl) ⟨by decide, by decide⟩ (by decide) ?_
      refine c_X0_addMultiple hP W1.2.1.1.2.1 h13 W1.2.1.1.2.2.2.1 rM1 rA1 (pl_ne (by decide)) (by omega) (by decide) hl1 ?_
      rw [ev1, ea1]
      show G _ _ _ _ _ _ _ _ _ _ _ _ _
      refine S_aload_n (pc := 54) dX9_sum_54 rfl ?_
      refine G_iload_n (pc := 55) dX9_sum_55 rfl ?_
      refine S_aload_n (pc := 56) dX9_sum_56 rfl ?_
      refine S_getR (pc := 57) dX9_sum_57 fX9_18 (by assumption) rfl (by assumption) ?_
      refine S_callV (pc := 60) (ci := 9) (d2 := 4) (mc2 := 0) (ms2 := 0) (As := [_, _]) dX9_sum_60 kX9_become lkX9_144 (by assumption) rfl rfl rfl (Nat.le_of_ble_eq_true rfl) ⟨by decide, by decide⟩ (by decide) ?_
      refine c_X9_become W2 ct rM2 (Ne.symm (pl_ne (by decide))) ?_
      rw [ev2, clip_len hX]
      show G _ _ _ _ _ _ _ _ _ _ _ _ _
      refine G_iret (pc := 63) dX9_sum_63 rfl (by decide) ?_
      exact h1 ct ca cb _ hE
  · skip
    refine G_iload_n (pc := 0) dX9_sum_0 rfl ?_
    refine G_iload_n (pc := 1) dX9_sum_1 rfl ?_
    refine G_iload (pc := 2) dX9_sum_2 rfl ?_
    refine G_callS (pc := 4) (d2 := 3) (mc2 := 0) (ms2 := 0) (As := [_, _, _]) dX9_sum_4 kX9_arePolys lkX9_132 rfl rfl (Nat.le_of_ble_eq_true rfl) ⟨by decide, by decide⟩ (by decide) ?_
    refine c_X9_arePolys (by omega) (fun z => absurd z c) (fun _ => ?_)
    · show G _ _ _ _ _ _ _ _ _ _ _ _ _
      refine G_if_ne_f (pc := 7) 13 dX9_sum_7 rfl (by decide) (by decide) ?_
      refine G_bipush (pc := 10) dX9_sum_10 rfl ?_
      refine G_iret (pc := 12) dX9_sum_12 rfl (by decide) ?_
      exact h0 c
set_option maxRecDepth 100000 in
set_option maxHeartbeats 4000000 in
theorem c_X9_divide {g : GC} {p t a b fl : Int} {sh : SH} {S : SS} {n : Nat} {Q : Option Value → GA → Nat → Prop} (hW : PbW p sh S) (hr : (-2147483648 ≤ t ∧ t ≤ 2147483647) ∧ (-2147483648 ≤ a ∧ a ≤ 2147483647) ∧ (-2147483648 ≤ b ∧ b ≤ 2147483647) ∧ (0 ≤ fl ∧ fl ≤ 1)) (h0 : ¬ ((0 ≤ t ∧ t < 8) ∧ (0 ≤ a ∧ a < 8) ∧ (0 ≤ b ∧ b < 8)) → Q (some (.int (iI (-2)))) (hp g sh S) n) (hz : (0 ≤ t ∧ t < 8) → (0 ≤ a ∧ a < 8) → (0 ≤ b ∧ b < 8) → plen (pr S b) 32 = 0 → Q (some (.int (iI (-3)))) (hp g sh S) n)
    (h1 : (0 ≤ t ∧ t < 8) → (0 ≤ a ∧ a < 8) → (0 ≤ b ∧ b < 8) → plen (pr S b) 32 ≠ 0 → ∀ (S' : SS) (q r x : Int → Int), DivS p (pr S a) (pr S b) q r (plen (pr S a) 32) (plen (pr S b) 32) → x = (if fl = 0 then clip 32 q else clip 32 r) → PbE p sh S t x S' → Q (some (.int (iI (plen x 32)))) (hp g sh S') n) : GCall g mX9_divide 5 0 0 [gr g 0, .int (iI t), .int (iI a), .int (iI b), .int (iI fl)] (hp g sh S) n Q := by
  have hW' := hW
  obtain ⟨hK, hA, hMd, hPo⟩ := hW'
  obtain ⟨k0, q0, q1, q2, q3, q4, q7, q8, q9, q12, q13, q14, s1, s4, s9, s10, s11, f1, f2, f3⟩ := hK
  have hP := hA.1.1
  have hRs := hA.1.2.1
  have hpb := hP.bd
  have h12 := hRs.1
  have h13 := hA.1.2.2.1
  have h2s := hMd.1.1
  refine GCall.of (by decide) (Nat.le_of_ble_eq_true rfl) (ls := [(0, _), (1, _), (2, _), (3, _), (4, _)]) rfl ?_
  by_cases c : (0 ≤ t ∧ t < 8) ∧ (0 ≤ a ∧ a < 8) ∧ (0 ≤ b ∧ b < 8)
  · obtain ⟨ct, ca, cb⟩ := c
    have rA := hPo a ca.1 ca.2
    have rB := hPo b cb.1 cb.2
    have eA : clip 64 (rv S (pl a)) = pr S a := clip_up rA.2.2.2.1 (by decide)
    obtain ⟨W1, s1', e1⟩ := PbW_put (xs := clip 64 (rv S (pl a))) hW clip_sup (clip_red (by omega) rA.2.2.2.2)
    have rM1 := W1.2.2.1
    have rB1 := W1.2.2.2 b cb.1 cb.2
    have ev1 : rv (rput S 2 (clip 64 (rv S (pl a))) 64) 2 = pr S a := rput_rv.trans eA
    have eb1 : rv (rput S 2 (clip 64 (rv S (pl a))) 64) (pl b) = pr S b := e1 b cb.1 cb.2
    have hl2 : (rput S 2 (clip 64 (rv S (pl a))) 64).1 2 1 = plen (pr S a) 32 := by
      rw [rM1.2.2.1, ev1]; exact plen_more rA.2.2.2.1 (by decide)
    have hlb : (rput S 2 (clip 64 (rv S (pl a))) 64).1 (pl b) 1 = plen (pr S b) 32 := by rw [rB1.2.2.1, eb1]
    have hbB := plen_bd (pr S b) 32
    have hbA := plen_bd (pr S a) 32
    have eLB : S.1 (pl b) 1 = plen (pr S b) 32 := rB.2.2.1
    by_cases cz : plen (pr S b) 32 = 0
    · skip
      refine G_iload_n (pc := 0) dX9_divide_0 rfl ?_
      refine G_iload_n (pc := 1) dX9_divide_1 rfl ?_
      refine G_iload_n (pc := 2) dX9_divide_2 rfl ?_
      refine G_callS (pc := 3) (d2 := 3) (mc2 := 0) (ms2 := 0) (As := [_, _, _]) dX9_divide_3 kX9_arePolys lkX9_132 rfl rfl (Nat.le_of_ble_eq_true rfl) ⟨by decide, by decide⟩ (by decide) ?_
      refine c_X9_arePolys (by omega) (fun _ => ?_) (fun z => absurd ⟨ct, ca, cb⟩ z)
      · show G _ _ _ _ _ _ _ _ _ _ _ _ _
        refine G_if_ne_t (pc := 6) 12 dX9_divide_6 rfl (by decide) (by decide) ?_
        refine S_aload_n (pc := 12) dX9_divide_12 rfl ?_
        refine S_getR (pc := 13) dX9_divide_13 fX9_11 (by assumption) rfl (by assumption) ?_
        refine G_iload_n (pc := 16) dX9_divide_16 rfl ?_
        refine S_aald (pc := 17) dX9_divide_17 (by assumption) rfl (by omega) (f1 _ cb.1 cb.2) ?_
        refine S_callV (pc := 18) (ci := 4) (d2 := 1) (mc2 := 0) (ms2 := 0) (As := []) dX9_divide_18 kX4_length lkX9_127 rB.1.1 rfl rfl rfl (Nat.le_of_ble_eq_true rfl) ⟨by decide, by decide⟩ (by decide) ?_
        refine c_X4_length rB.1 ?_
        rw [eLB]
        show G _ _ _ _ _ _ _ _ _ _ _ _ _
        refine G_if_ne_f (pc := 21) 27 dX9_divide_21 rfl (by omega) (by omega) ?_
        refine G_bipush (pc := 24) dX9_divide_24 rfl ?_
        refine G_iret (pc := 26) dX9_divide_26 rfl (by decide) ?_
        exact hz ct ca cb cz
    · have Kf : ∀ q r : Int → Int, DivS p (pr S a) (pr S b) q r (plen (pr S a) 32) (plen (pr S b) 32) → G g mX9_divide 5 0 0 57 [(0, gr g 0), (1, .int (iI t)), (2, .int (iI a)), (3, .int (iI b)), (4, .int (iI fl))] [gr g 16] (hp g sh (rput (rput (rput S 2 (clip 64 (rv S (pl a))) 64) 2 r 64) 16 q 64)) n 0 0 Q := by
        intro q r hD
        have sq : Sup q 64 := fun j hj => hD.2.2.2.2 j (by omega)
        have sr : Sup r 64 := fun j hj => hD.2.2.2.1 j (by omega)
        obtain ⟨W2, s2', e2⟩ := PbW_put (xs := r) W1 sr hD.2.1
        have hA3 : AlgW p sh (rput (rput (rput S 2 (clip 64 (rv S (pl a))) 64) 2 r 64) 16 q 64) := AlgW_row W2.2.1 (Or.inr (Or.inl rfl)) sq hD.1
        obtain ⟨W3, s3', e3⟩ := PbW_alg W2 (Same_put Same_rf (by unfold AlgD; omega) (by unfold AlgD; omega)) hA3
        have evr : rv (rput (rput (rput S 2 (clip 64 (rv S (pl a))) 64) 2 r 64) 16 q 64) 2 = r := (rput_ne (by decide)).trans rput_rv
        have evq : rv (rput (rput (rput S 2 (clip 64 (rv S (pl a))) 64) 2 r 64) 16 q 64) 16 = q := rput_rv
        have hEq := PbE_bec W3 (Same_tr (Same_tr s1' s2') s3') (fun i x y => (e3 i x y).trans ((e2 i x y).trans (e1 i x y))) ct W3.2.1.1.2.2.2.2.2.2.2.2.2.1
        have hEr := PbE_bec W3 (Same_tr (Same_tr s1' s2') s3') (fun i x y => (e3 i x y).trans ((e2 i x y).trans (e1 i x y))) ct W3.2.2.1
        rw [evq] at hEq
        rw [evr] at hEr
        have r16 := W3.2.1.1.2.2.2.2.2.2.2.2.2.1
        refine S_astore (pc := 57) (ls' := [(5, _), (0, _), (1, _), (2, _), (3, _), (4, _)]) dX9_divide_57 (by decide) rfl ?_
        refine S_aload_n (pc := 59) dX9_divide_59 rfl ?_
        refine G_iload_n (pc := 60) dX9_divide_60 rfl ?_
        refine G_iload (pc := 61) dX9_divide_61 rfl ?_
        refine G_if_eq (pc := 63) 73 dX9_divide_63 rfl (by omega) (fun c63 => ?_) (fun c63 => ?_)
        · skip
          refine S_aload (pc := 73) dX9_divide_73 rfl ?_
          refine S_callV (pc := 75) (ci := 9) (d2 := 4) (mc2 := 0) (ms2 := 0) (As := [_, _]) dX9_divide_75 kX9_become lkX9_144 (by assumption) rfl rfl rfl (Nat.le_of_ble_eq_true rfl) ⟨by decide, by decide⟩ (by decide) ?_
          first | (refine c_X9_become W3 ct W3.2.2.1 (Ne.symm (pl_ne (by decide))) ?_; rw [evr]) | (refine c_X9_become W3 ct r16 (Ne.symm (pl_ne (by decide))) ?_; rw [evq])
          show G _ _ _ _ _ _ _ _ _ _ _ _ _
          refine G_iret (pc := 78) dX9_divide_78 rfl (by decide) ?_
          first
            | exact h1 ct ca cb cz _ q r _ hD (by rw [if_neg (by omega)]) hEr
            | exact h1 ct ca cb cz _ q r _ hD (by rw [if_pos (by omega)]) hEq
        · skip
          refine S_aload_n (pc := 66) dX9_divide_66 rfl ?_
          refine S_getR (pc := 67) dX9_divide_67 fX9_18 (by assumption) rfl (by assumption) ?_
          refine G_goto (pc := 70) 75 dX9_divide_70 rfl ?_
          refine S_callV (pc := 75) (ci := 9) (d2 := 4) (mc2 := 0) (ms2 := 0) (As := [_, _]) dX9_divide_75 kX9_become lkX9_144 (by assumption) rfl rfl rfl (Nat.le_of_ble_eq_true rfl) ⟨by decide, by decide⟩ (by decide) ?_
          first | (refine c_X9_become W3 ct W3.2.2.1 (Ne.symm (pl_ne (by decide))) ?_; rw [evr]) | (refine c_X9_become W3 ct r16 (Ne.symm (pl_ne (by decide))) ?_; rw [evq])
          show G _ _ _ _ _ _ _ _ _ _ _ _ _
          refine G_iret (pc := 78) dX9_divide_78 rfl (by decide) ?_
          first
            | exact h1 ct ca cb cz _ q r _ hD (by rw [if_neg (by omega)]) hEr
            | exact h1 ct ca cb cz _ q r _ hD (by rw [if_pos (by omega)]) hEq
      refine G_iload_n (pc := 0) dX9_divide_0 rfl ?_
      refine G_iload_n (pc := 1) dX9_divide_1 rfl ?_
      refine G_iload_n (pc := 2) dX9_divide_2 rfl ?_
      refine G_callS (pc := 3) (d2 := 3) (mc2 := 0) (ms2 := 0) (As := [_, _, _]) dX9_divide_3 kX9_arePolys lkX9_132 rfl rfl (Nat.le_of_ble_eq_true rfl) ⟨by decide, by decide⟩ (by decide) ?_
      refine c_X9_arePolys (by omega) (fun _ => ?_) (fun z => absurd ⟨ct, ca, cb⟩ z)
      · show G _ _ _ _ _ _ _ _ _ _ _ _ _
        refine G_if_ne_t (pc := 6) 12 dX9_divide_6 rfl (by decide) (by decide) ?_
        refine S_aload_n (pc := 12) dX9_divide_12 rfl ?_
        refine S_getR (pc := 13) dX9_divide_13 fX9_11 (by assumption) rfl (by assumption) ?_
        refine G_iload_n (pc := 16) dX9_divide_16 rfl ?_
        refine S_aald (pc := 17) dX9_divide_17 (by assumption) rfl (by omega) (f1 _ cb.1 cb.2) ?_
        refine S_callV (pc := 18) (ci := 4) (d2 := 1) (mc2 := 0) (ms2 := 0) (As := []) dX9_divide_18 kX4_length lkX9_127 rB.1.1 rfl rfl rfl (Nat.le_of_ble_eq_true rfl) ⟨by decide, by decide⟩ (by decide) ?_
        refine c_X4_length rB.1 ?_
        rw [eLB]
        show G _ _ _ _ _ _ _ _ _ _ _ _ _
        refine G_if_ne_t (pc := 21) 27 dX9_divide_21 rfl (by omega) (by omega) ?_
        refine S_aload_n (pc := 27) dX9_divide_27 rfl ?_
        refine S_getR (pc := 28) dX9_divide_28 fX9_18 (by assumption) rfl (by assumption) ?_
        refine S_aload_n (pc := 31) dX9_divide_31 rfl ?_
        refine S_getR (pc := 32) dX9_divide_32 fX9_11 (by assumption) rfl (by assumption) ?_
        refine G_iload_n (pc := 35) dX9_divide_35 rfl ?_
        refine S_aald (pc := 36) dX9_divide_36 (by assumption) rfl (by omega) (f1 _ ca.1 ca.2) ?_
        refine S_callV (pc := 37) (ci := 4) (d2 := 3) (mc2 := 0) (ms2 := 0) (As := [_]) dX9_divide_37 kX4_copy lkX9_136 (by assumption) rfl rfl rfl (Nat.le_of_ble_eq_true rfl) ⟨by decide, by decide⟩ (by decide) ?_
        refine c_X4_copy hMd rA (pl_ne (by decide)) (by omega) ?_
        show G _ _ _ _ _ _ _ _ _ _ _ _ _
        refine S_aload_n (pc := 40) dX9_divide_40 rfl ?_
        refine S_getR (pc := 41) dX9_divide_41 fX9_63 (by assumption) rfl (by assumption) ?_
        refine S_aload_n (pc := 44) dX9_divide_44 rfl ?_
        refine S_getR (pc := 45) dX9_divide_45 fX9_18 (by assumption) rfl (by assumption) ?_
        refine S_aload_n (pc := 48) dX9_divide_48 rfl ?_
        refine S_getR (pc := 49) dX9_divide_49 fX9_11 (by assumption) rfl (by assumption) ?_
        refine G_iload_n (pc := 52) dX9_divide_52 rfl ?_
        refine S_aald (pc := 53) dX9_divide_53 (by assumption) rfl (by omega) (f1 _ cb.1 cb.2) ?_
        refine S_callV (pc := 54) (ci := 0) (d2 := 4) (mc2 := 0) (ms2 := 0) (As := [_, _]) dX9_divide_54 kX0_reduce lkX9_183 (by assumption) rfl rfl rfl (Nat.le_of_ble_eq_true rfl) ⟨by decide, by decide⟩ (by decide) ?_
        refine c_X0_reduce W1.2.1.1 rM1 rB1 (pl_ne (by decide)) (by decide) (pl_ne (by decide)) (by rw [hlb]; omega) (fun q r hD => ?_)
        exact Kf q r (by rw [ev1, eb1, hl2, hlb] at hD; exact hD)
  · skip
    refine G_iload_n (pc := 0) dX9_divide_0 rfl ?_
    refine G_iload_n (pc := 1) dX9_divide_1 rfl ?_
    refine G_iload_n (pc := 2) dX9_divide_2 rfl ?_
    refine G_callS (pc := 3) (d2 := 3) (mc2 := 0) (ms2 := 0) (As := [_, _, _]) dX9_divide_3 kX9_arePolys lkX9_132 rfl rfl (Nat.le_of_ble_eq_true rfl) ⟨by decide, by decide⟩ (by decide) ?_
    refine c_X9_arePolys (by omega) (fun z => absurd z c) (fun _ => ?_)
    · show G _ _ _ _ _ _ _ _ _ _ _ _ _
      refine G_if_ne_f (pc := 6) 12 dX9_divide_6 rfl (by decide) (by decide) ?_
      refine G_bipush (pc := 9) dX9_divide_9 rfl ?_
      refine G_iret (pc := 11) dX9_divide_11 rfl (by decide) ?_
      exact h0 c
