/-! PolyBench: right -/
set_option maxRecDepth 100000 in
set_option maxHeartbeats 4000000 in
theorem c_X9_right {g : GC} {p m t k : Int} {sh : SH} {S : SS} {Nd F : Int → Int} {n : Nat} {Q : Option Value → GA → Nat → Prop} (hW : PbW p sh S) (hL : PlW p sh S m) (hr : (-2147483648 ≤ t ∧ t ≤ 2147483647) ∧ (-2147483648 ≤ k ∧ k ≤ 2147483647)) (hNd : Nd = (itp p (S.2.1 31) (S.2.1 32) m.toNat).2) (hF : F = (itp p (S.2.1 31) (S.2.1 32) m.toNat).1) (h0 : ¬ ((0 ≤ t ∧ t < 8) ∧ (1 ≤ k ∧ k ≤ m)) → Q (some (.int (iI (-2)))) (hp g sh S) n)
    (h1 : (0 ≤ t ∧ t < 8) → (1 ≤ k ∧ k ≤ m) → (∃ i : Int, 0 ≤ i ∧ i < m ∧ 0 < tah (S.2.1 31) i i.toNat) → Q (some (.int (iI (-3)))) (hp g sh S) n)
    (hroom : (0 ≤ t ∧ t < 8) → (1 ≤ k ∧ k ≤ m) → (∀ i : Int, 0 ≤ i → i < m → tah (S.2.1 31) i i.toNat = 0) → ∀ c : Nat, (∀ s : Nat, s ≤ c → (m + k + 1) / 2 < plen (eu p Nd F s).2.1 64) → c ≤ 62 ∧ plen (pdiv p (eu p Nd F c).1 (eu p Nd F c).2.1 (plen (eu p Nd F c).1 64) (plen (eu p Nd F c).2.1 64)).1 64 + plen (eu p Nd F c).2.2.2 64 ≤ 65)
    (hV : (0 ≤ t ∧ t < 8) → (1 ≤ k ∧ k ≤ m) → (∀ i : Int, 0 ≤ i → i < m → tah (S.2.1 31) i i.toNat = 0) → ∀ c : Nat, (∀ s : Nat, s < c → (m + k + 1) / 2 < plen (eu p Nd F s).2.1 64) → plen (eu p Nd F c).2.1 64 ≤ (m + k + 1) / 2 → 0 < plen (eu p Nd F c).2.2.2 64)
    (h2 : (0 ≤ t ∧ t < 8) → (1 ≤ k ∧ k ≤ m) → (∀ i : Int, 0 ≤ i → i < m → tah (S.2.1 31) i i.toNat = 0) → ∀ (c : Nat) (F0 : Int → Int) (S' : SS), (∀ s : Nat, s < c → (m + k + 1) / 2 < plen (eu p Nd F s).2.1 64) → plen (eu p Nd F c).2.1 64 ≤ (m + k + 1) / 2 → F0 = (pdiv p (eu p Nd F c).2.1 (eu p Nd F c).2.2.2 (plen (eu p Nd F c).2.1 64) (plen (eu p Nd F c).2.2.2 64)).1 → PbW p sh S' → PlW p sh S' m → Same D2 S S' → (∀ i : Int, 0 ≤ i → i < 8 → pr S' i = pr S i) → ((k < plen F0 64 ∨ (m - k) / 2 < wrg p F0 (S.2.1 31) (S.2.1 32) m.toNat) → Q (some (.int (iI (-1)))) (hp g sh S') n) ∧ (¬ (k < plen F0 64 ∨ (m - k) / 2 < wrg p F0 (S.2.1 31) (S.2.1 32) m.toNat) → ∀ S2 : SS, PbE p sh S' t (clip 32 F0) S2 → PlW p sh S2 m → Q (some (.int (iI (wrg p F0 (S.2.1 31) (S.2.1 32) m.toNat)))) (hp g sh S2) n)) : GCall g mX9_right 7 0 0 [gr g 0, .int (iI t), .int (iI k)] (hp g sh S) n Q := by
  have hW' := hW
  obtain ⟨hK, hA, hMd, hPo⟩ := hW'
  obtain ⟨k0, q0, q1, q2, q3, q4, q7, q8, q9, q12, q13, q14, s1, s4, s9, s10, s11, f1, f2, f3⟩ := hK
  have hP := hA.1.1
  have hRs := hA.1.2.1
  have hpb := hP.bd
  have h12 := hRs.1
  have h13 := hA.1.2.2.1
  have h2s := hMd.1.1
  have h30 := hL.1
  have hmb := hL.2.2.2.2.2.2.2.2.2.2.1
  obtain ⟨o, w, f, v, hE⟩ := hA.2
  have Kf : (0 ≤ t ∧ t < 8) → (1 ≤ k ∧ k ≤ m) → (∀ i : Int, 0 ≤ i → i < m → tah (S.2.1 31) i i.toNat = 0) → ∀ (c : Nat) (S1 : SS), Same PlD S S1 → PlW p sh S1 m → AlgW p sh S1 → (∀ s : Nat, s < c → (m + k + 1) / 2 < plen (eu p Nd F s).2.1 64) → plen (eu p Nd F c).2.1 64 ≤ (m + k + 1) / 2 → rv S1 16 = (pdiv p (eu p Nd F c).2.1 (eu p Nd F c).2.2.2 (plen (eu p Nd F c).2.1 64) (plen (eu p Nd F c).2.2.2 64)).1 → G g mX9_right 7 0 0 48 [(3, gr g 16), (0, gr g 0), (1, .int (iI t)), (2, .int (iI k))] [] (hp g sh S1) n 0 0 Q := by
    intro ct ck hno c S1 z1 z2 z3 z4 z5 z6
    obtain ⟨W1, s1', e1⟩ := PbW_pl hW z1 z3
    have r16 := Al16 z3
    have eN : S1.2.1 31 = S.2.1 31 := z1.2.1 31 (by unfold PlD; omega)
    have eV : S1.2.1 32 = S.2.1 32 := z1.2.1 32 (by unfold PlD; omega)
    have u13 : S1.2.2 0 13 = some 30 := W1.1.2.2.2.2.2.2.2.2.2.2.1
    have h16 := r16.1.1
    obtain ⟨hq1, hq2⟩ := h2 ct ck hno c (rv S1 16) S1 z4 z5 z6 W1 z2 s1' e1
    have eL : S1.1 16 1 = plen (rv S1 16) 64 := r16.2.2.1
    have bL := plen_bd (rv S1 16) 64
    have hwb := wrg_bd (p := p) (r := rv S1 16) (xs := S.2.1 31) (vs := S.2.1 32) m.toNat
    have hE := PbE_put W1 ct (xs := clip 32 (rv S1 16)) clip_sup (clip_red (by omega) r16.2.2.2.2)
    have hL2 : PlW p sh (rput S1 (pl t) (clip 32 (rv S1 16)) 32) m := PlW_put2 z2 (by unfold pl; omega)
    have hqe := fun z => hq2 z _ hE hL2
    refine S_aload_n (pc := 48) dX9_right_48 rfl ?_
    refine S_getR (pc := 49) dX9_right_49 fX9_72 (by assumption) rfl (by assumption) ?_
    refine S_aload_n (pc := 52) dX9_right_52 rfl ?_
    refine S_callV (pc := 53) (ci := 2) (d2 := 3) (mc2 := 0) (ms2 := 0) (As := [_]) dX9_right_53 kX2_wrongFor lkX9_239 (by assumption) rfl rfl rfl (Nat.le_of_ble_eq_true rfl) ⟨by decide, by decide⟩ (by decide) ?_
    refine c_X2_wrongFor z2 z3.1 r16 ?_
    rw [eN, eV]
    show G _ _ _ _ _ _ _ _ _ _ _ _ _
    refine G_istore (pc := 56) (ls' := [(4, _), (3, _), (0, _), (1, _), (2, _)]) dX9_right_56 (by decide) rfl ?_
    refine S_aload_n (pc := 58) dX9_right_58 rfl ?_
    refine S_callV (pc := 59) (ci := 4) (d2 := 1) (mc2 := 0) (ms2 := 0) (As := []) dX9_right_59 kX4_length lkX9_127 (by assumption) rfl rfl rfl (Nat.le_of_ble_eq_true rfl) ⟨by decide, by decide⟩ (by decide) ?_
    refine c_X4_length r16.1 ?_
    rw [eL]
    show G _ _ _ _ _ _ _ _ _ _ _ _ _
    refine G_iload_n (pc := 62) dX9_right_62 rfl ?_
    refine G_icmp_gt (pc := 63) 82 dX9_right_63 rfl (by omega) (fun c63 => ?_) (fun c63 => ?_)
    · skip
      refine G_iconst (pc := 82) dX9_right_82 ?_
      refine G_iret (pc := 83) dX9_right_83 rfl (by decide) ?_
      first | exact hq1 (by omega) | exact hqe (by omega)
    · skip
      refine G_iload (pc := 66) dX9_right_66 rfl ?_
      refine S_aload_n (pc := 68) dX9_right_68 rfl ?_
      refine S_getR (pc := 69) dX9_right_69 fX9_72 (by assumption) rfl (by assumption) ?_
      refine S_callV (pc := 72) (ci := 2) (d2 := 1) (mc2 := 0) (ms2 := 0) (As := []) dX9_right_72 kX2_size lkX9_207 (by assumption) rfl rfl rfl (Nat.le_of_ble_eq_true rfl) ⟨by decide, by decide⟩ (by decide) ?_
      refine c_X2_size z2 ?_
      show G _ _ _ _ _ _ _ _ _ _ _ _ _
      refine G_iload_n (pc := 75) dX9_right_75 rfl ?_
      refine G_isub (pc := 76) dX9_right_76 ?_
      refine G_iconst (pc := 77) dX9_right_77 ?_
      refine G_idivP (pc := 78) dX9_right_78 (by omega) ?_
      refine G_icmp_le (pc := 79) 84 dX9_right_79 rfl (by omega) (fun c79 => ?_) (fun c79 => ?_)
      · skip
        refine S_aload_n (pc := 84) dX9_right_84 rfl ?_
        refine G_iload_n (pc := 85) dX9_right_85 rfl ?_
        refine S_aload_n (pc := 86) dX9_right_86 rfl ?_
        refine S_callV (pc := 87) (ci := 9) (d2 := 4) (mc2 := 0) (ms2 := 0) (As := [_, _]) dX9_right_87 kX9_become lkX9_144 (by assumption) rfl rfl rfl (Nat.le_of_ble_eq_true rfl) ⟨by decide, by decide⟩ (by decide) ?_
        refine c_X9_become W1 ct r16 (Ne.symm (pl_ne (by decide))) ?_
        show G _ _ _ _ _ _ _ _ _ _ _ _ _
        refine G_pop (pc := 90) dX9_right_90 rfl ?_
        refine G_iload (pc := 91) dX9_right_91 rfl ?_
        refine G_iret (pc := 93) dX9_right_93 rfl (by decide) ?_
        first | exact hq1 (by omega) | exact hqe (by omega)
      · skip
        refine G_iconst (pc := 82) dX9_right_82 ?_
        refine G_iret (pc := 83) dX9_right_83 rfl (by decide) ?_
        first | exact hq1 (by omega) | exact hqe (by omega)
  refine GCall.of (by decide) (Nat.le_of_ble_eq_true rfl) (ls := [(0, _), (1, _), (2, _)]) rfl ?_
  refine G_iload_n (pc := 0) dX9_right_0 rfl ?_
  refine G_callS (pc := 1) (d2 := 2) (mc2 := 0) (ms2 := 0) (As := [_]) dX9_right_1 kX9_isPoly lkX9_107 rfl rfl (Nat.le_of_ble_eq_true rfl) ⟨by decide, by decide⟩ (by decide) ?_
  refine c_X9_isPoly (by omega) (fun w1 => ?_) (fun w1 => ?_)
  · show G _ _ _ _ _ _ _ _ _ _ _ _ _
    refine G_if_eq_f (pc := 4) 23 dX9_right_4 rfl (by decide) (by decide) ?_
    refine G_iload_n (pc := 7) dX9_right_7 rfl ?_
    refine G_iconst (pc := 8) dX9_right_8 ?_
    refine G_icmp_lt (pc := 9) 23 dX9_right_9 rfl (by omega) (fun c9 => ?_) (fun c9 => ?_)
    · skip
      refine G_bipush (pc := 23) dX9_right_23 rfl ?_
      refine G_iret (pc := 25) dX9_right_25 rfl (by decide) ?_
      first | exact h0 (by omega) | exact h1 w1 (by omega) w30
    · skip
      refine G_iload_n (pc := 12) dX9_right_12 rfl ?_
      refine S_aload_n (pc := 13) dX9_right_13 rfl ?_
      refine S_getR (pc := 14) dX9_right_14 fX9_72 (by assumption) rfl (by assumption) ?_
      refine S_callV (pc := 17) (ci := 2) (d2 := 1) (mc2 := 0) (ms2 := 0) (As := []) dX9_right_17 kX2_size lkX9_207 (by assumption) rfl rfl rfl (Nat.le_of_ble_eq_true rfl) ⟨by decide, by decide⟩ (by decide) ?_
      refine c_X2_size hL ?_
      show G _ _ _ _ _ _ _ _ _ _ _ _ _
      refine G_icmp_le (pc := 20) 26 dX9_right_20 rfl (by omega) (fun c20 => ?_) (fun c20 => ?_)
      · skip
        refine S_aload_n (pc := 26) dX9_right_26 rfl ?_
        refine S_getR (pc := 27) dX9_right_27 fX9_72 (by assumption) rfl (by assumption) ?_
        refine S_callV (pc := 30) (ci := 2) (d2 := 4) (mc2 := 0) (ms2 := 0) (As := []) dX9_right_30 kX2_hasAlike lkX9_231 (by assumption) rfl rfl rfl (Nat.le_of_ble_eq_true rfl) ⟨by decide, by decide⟩ (by decide) ?_
        refine c_X2_hasAlike hL hP (fun w30 => ?_) (fun w30 => ?_)
        · show G _ _ _ _ _ _ _ _ _ _ _ _ _
          refine G_if_eq_f (pc := 33) 39 dX9_right_33 rfl (by decide) (by decide) ?_
          refine G_bipush (pc := 36) dX9_right_36 rfl ?_
          refine G_iret (pc := 38) dX9_right_38 rfl (by decide) ?_
          first | exact h0 (by omega) | exact h1 w1 (by omega) w30
        · show G _ _ _ _ _ _ _ _ _ _ _ _ _
          refine G_if_eq_t (pc := 33) 39 dX9_right_33 rfl (by decide) (by decide) ?_
          refine S_aload_n (pc := 39) dX9_right_39 rfl ?_
          refine S_getR (pc := 40) dX9_right_40 fX9_72 (by assumption) rfl (by assumption) ?_
          refine G_iload_n (pc := 43) dX9_right_43 rfl ?_
          refine S_callV (pc := 44) (ci := 2) (d2 := 6) (mc2 := 0) (ms2 := 0) (As := [_]) dX9_right_44 kX2_nearest lkX9_235 (by assumption) rfl rfl rfl (Nat.le_of_ble_eq_true rfl) ⟨by decide, by decide⟩ (by decide) ?_
          refine c_X2_nearest hL hW.2.1.1 hE (by omega) hNd hF (hroom w1 (by omega) w30) (hV w1 (by omega) w30) (fun c S1 z1 z2 z3 z4 z5 z6 => ?_)
          · show G _ _ _ _ _ _ _ _ _ _ _ _ _
            refine S_astore_n (pc := 47) (ls' := [(3, _), (0, _), (1, _), (2, _)]) dX9_right_47 (by decide) rfl ?_
            exact Kf w1 (by omega) w30 c S1 z1 z2 z3 z4 z5 z6
      · skip
        refine G_bipush (pc := 23) dX9_right_23 rfl ?_
        refine G_iret (pc := 25) dX9_right_25 rfl (by decide) ?_
        first | exact h0 (by omega) | exact h1 w1 (by omega) w30
  · show G _ _ _ _ _ _ _ _ _ _ _ _ _
    refine G_if_eq_t (pc := 4) 23 dX9_right_4 rfl (by decide) (by decide) ?_
    refine G_bipush (pc := 23) dX9_right_23 rfl ?_
    refine G_iret (pc := 25) dX9_right_25 rfl (by decide) ?_
    first | exact h0 (by omega) | exact h1 w1 (by omega) w30
