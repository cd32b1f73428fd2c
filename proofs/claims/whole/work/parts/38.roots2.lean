/-! Algebra: seekRoots from its entry; soughtRoot -/
set_option maxRecDepth 100000 in
set_option maxHeartbeats 4000000 in
theorem c_X0_seekRoots {g : GC} {p : Int} {sh : SH} {S : SS} {n a N : Nat} {Q : Option Value → GA → Nat → Prop} (hW : AlgW p sh S) (ha : Row p sh S a N) (hN : N ≤ 32) (hna : ¬ AlgD a) (hl : 0 < plen (rv S a) 64)
    (hroom : ∀ t : Nat, (∀ s : Nat, s ≤ t → 0 < plen (eu p (rv S a) (skx p (rv S a)) s).2.1 64) → t ≤ 62 ∧ plen (pdiv p (eu p (rv S a) (skx p (rv S a)) t).1 (eu p (rv S a) (skx p (rv S a)) t).2.1 (plen (eu p (rv S a) (skx p (rv S a)) t).1 64) (plen (eu p (rv S a) (skx p (rv S a)) t).2.1 64)).1 64 + plen (eu p (rv S a) (skx p (rv S a)) t).2.2.2 64 ≤ 65)
    (hq : ∀ (t : Nat) (S' : SS), AlgW p sh S' → Same AlgD S S' → (∀ s : Nat, s < t → 0 < plen (eu p (rv S a) (skx p (rv S a)) s).2.1 64) → plen (eu p (rv S a) (skx p (rv S a)) t).2.1 64 ≤ 0 → rv S' 18 = (eu p (rv S a) (skx p (rv S a)) t).1 → Q (some (.int (iI (plen (eu p (rv S a) (skx p (rv S a)) t).1 64 - 1)))) (hp g sh S') n) :
    GCall g mX0_seekRoots 6 0 0 [gr g 13, gr g a] (hp g sh S) n Q := by
  obtain ⟨hA, o0, w0, f0, v0, hE⟩ := hW
  have hA' := hA
  obtain ⟨hP, hrs, h13, p0, p14, p16, p18, p20, r14, r16, r18, r20⟩ := hA'
  have hpb := hP.bd
  have h181 := r18.1.1
  have hrs1 := hrs.1
  have hna1 := nDE1 hna ha hrs
  have hsk := sk_ok hP ha.2.2.2.1 ha.2.2.2.2 hN hl 13
  have hend2 : ∀ (t : Nat) (S' : SS) (o w f v : Nat), Alg p sh S' → Same AlgD S S' → EuP p sh S' o w f v → EuV S' o w f v (eu p (rv S a) (skx p (rv S a)) t) → (∀ s : Nat, s < t → 0 < plen (eu p (rv S a) (skx p (rv S a)) s).2.1 64) → plen (eu p (rv S a) (skx p (rv S a)) t).2.1 64 ≤ 0 → G g mX0_seekRoots 6 0 0 118 [(0, gr g 13), (1, gr g a)] [] (hp g sh S') n 0 0 Q := by
    intro t S' o w f v hA1 hS1 hE1 hV1 hs ht
    have hE1' := hE1
    obtain ⟨e5, e6, e7, e8, hperm, ro, rw_, rf, rv_⟩ := hE1'
    obtain ⟨v1, v2, v3, v4⟩ := hV1
    have q18 := hA1.2.2.2.2.2.2.1
    have hR := Row_put hA1.2.2.2.2.2.2.2.2.2.2.1 ro.2.2.2.1 ro.2.2.2.2
    have hR0 := hR.1
    have hbl := plen_bd (rv S' o) 64
    have eL : (rput S' 18 (rv S' o) 64).1 18 1 = plen (rv S' o) 64 := rput_L
    refine S_aload_n (pc := 118) dX0_seekRoots_118 rfl ?_
    refine S_getR (pc := 119) dX0_seekRoots_119 fX0_23 (by assumption) rfl (by assumption) ?_
    refine S_aload_n (pc := 122) dX0_seekRoots_122 rfl ?_
    refine S_getR (pc := 123) dX0_seekRoots_123 fX0_29 (by assumption) rfl (by assumption) ?_
    refine S_callV (pc := 126) (ci := 4) (d2 := 3) (mc2 := 0) (ms2 := 0) (As := [_]) dX0_seekRoots_126 kX4_copy lkX0_91 (by assumption) rfl rfl rfl (Nat.le_of_ble_eq_true rfl) ⟨by decide, by decide⟩ (by decide) ?_
    refine c_X4_copy hA1.2.2.2.2.2.2.2.2.2.2.1 ro (pO hperm (by decide)) (by omega) ?_
    rw [clip_id ro.2.2.2.1]
    show G _ _ _ _ _ _ _ _ _ _ _ _ _
    refine S_aload_n (pc := 129) dX0_seekRoots_129 rfl ?_
    refine S_getR (pc := 130) dX0_seekRoots_130 fX0_23 (by assumption) rfl (by assumption) ?_
    refine S_callV (pc := 133) (ci := 4) (d2 := 1) (mc2 := 0) (ms2 := 0) (As := []) dX0_seekRoots_133 kX4_length lkX0_45 (by assumption) rfl rfl rfl (Nat.le_of_ble_eq_true rfl) ⟨by decide, by decide⟩ (by decide) ?_
    refine c_X4_length hR0 ?_
    rw [eL]
    show G _ _ _ _ _ _ _ _ _ _ _ _ _
    refine G_iconst (pc := 136) dX0_seekRoots_136 ?_
    refine G_isub (pc := 137) dX0_seekRoots_137 ?_
    refine G_iret (pc := 138) dX0_seekRoots_138 rfl (by decide) ?_
    rw [v1]
    refine hq t _ ⟨Alg_18 hA1 (v1 ▸ ro.2.2.2.1) (v1 ▸ ro.2.2.2.2), o, w, f, v, EuP_ne hE1 (pAll hperm (by decide))⟩ (Same_put hS1 (aD (by decide)) (aD (by decide))) hs ht ?_
    rw [rput_rv]
  have hend : ∀ S1 : SS, Alg p sh S1 → EuP p sh S1 o0 w0 f0 v0 → Same AlgD S S1 → rv S1 18 = sk p (rv S a) 13 → G g mX0_seekRoots 6 0 0 93 [(0, gr g 13), (1, gr g a)] [] (hp g sh S1) n 0 0 Q := by
    intro S1 A1 E1 Ss1 v18
    have q18 := A1.2.2.2.2.2.2.1
    have A2 : Alg p sh (rput S1 20 (line p 0) 2) := Alg_20 A1 line_sup (line_red hP)
    have l20 : (rput S1 20 (line p 0) 2).1 20 1 ≤ 2 := by rw [rput_L]; exact (plen_bd _ 2).2
    have w18 : rv (rput S1 20 (line p 0) 2) 18 = sk p (rv S a) 13 := by rw [rput_ne (by decide), v18]
    have w20 : rv (rput S1 20 (line p 0) 2) 20 = line p 0 := rput_rv
    have hxs : Sup (padd p (sk p (rv S a) 13) (-1) (line p 0) 0) 64 := padd_sup (la := 2) hsk.2.1 hsk.1 (Int.le_refl _) line_sup (by omega)
    have A3 : Alg p sh (rput (rput S1 20 (line p 0) 2) 18 (padd p (sk p (rv S a) 13) (-1) (line p 0) 0) 64) := Alg_18 A2 hxs (padd_red (by omega))
    have E3 : EuP p sh (rput (rput S1 20 (line p 0) 2) 18 (padd p (sk p (rv S a) 13) (-1) (line p 0) 0) 64) o0 w0 f0 v0 := EuP_ne (EuP_ne E1 (pAll E1.2.2.2.2.1 (by decide))) (pAll E1.2.2.2.2.1 (by decide))
    have S3 : Same AlgD S (rput (rput S1 20 (line p 0) 2) 18 (padd p (sk p (rv S a) 13) (-1) (line p 0) 0) 64) := Same_put (Same_put Ss1 (aD (by decide)) (aD (by decide))) (aD (by decide)) (aD (by decide))
    have a3 : Row p sh (rput (rput S1 20 (line p 0) 2) 18 (padd p (sk p (rv S a) 13) (-1) (line p 0) 0) 64) a N := Same_row S3 hna hna1 ha
    have ea : rv (rput (rput S1 20 (line p 0) 2) 18 (padd p (sk p (rv S a) 13) (-1) (line p 0) 0) 64) a = rv S a := Same_rv S3 hna1
    have e18 : rv (rput (rput S1 20 (line p 0) 2) 18 (padd p (sk p (rv S a) 13) (-1) (line p 0) 0) 64) 18 = skx p (rv S a) := rput_rv
    refine S_aload_n (pc := 93) dX0_seekRoots_93 rfl ?_
    refine S_aload_n (pc := 94) dX0_seekRoots_94 rfl ?_
    refine S_getR (pc := 95) dX0_seekRoots_95 fX0_23 (by assumption) rfl (by assumption) ?_
    refine G_iconst (pc := 98) dX0_seekRoots_98 ?_
    refine S_aload_n (pc := 99) dX0_seekRoots_99 rfl ?_
    refine G_iconst (pc := 100) dX0_seekRoots_100 ?_
    refine S_callV (pc := 101) (ci := 0) (d2 := 2) (mc2 := 0) (ms2 := 0) (As := [_]) dX0_seekRoots_101 kX0_lineAt lkX0_113 (by assumption) rfl rfl rfl (Nat.le_of_ble_eq_true rfl) ⟨by decide, by decide⟩ (by decide) ?_
    refine c_X0_lineAt A1 (by omega) ?_
    show G _ _ _ _ _ _ _ _ _ _ _ _ _
    refine G_iconst (pc := 104) dX0_seekRoots_104 ?_
    refine S_callV (pc := 105) (ci := 0) (d2 := 2) (mc2 := 0) (ms2 := 0) (As := [_, _, _, _]) dX0_seekRoots_105 kX0_addMultiple lkX0_87 (by assumption) rfl rfl rfl (Nat.le_of_ble_eq_true rfl) ⟨by decide, by decide⟩ (by decide) ?_
    refine c_X0_addMultiple hP A2.2.1 h13 A2.2.2.2.1 A2.2.2.2.2.2.2.2.2.2.2.1 A2.2.2.2.2.2.2.2.2.2.2.2 (by decide) (by omega) (by omega) (by omega) ?_
    rw [w18, w20]
    show G _ _ _ _ _ _ _ _ _ _ _ _ _
    refine S_aload_n (pc := 108) dX0_seekRoots_108 rfl ?_
    refine S_aload_n (pc := 109) dX0_seekRoots_109 rfl ?_
    refine S_aload_n (pc := 110) dX0_seekRoots_110 rfl ?_
    refine S_getR (pc := 111) dX0_seekRoots_111 fX0_23 (by assumption) rfl (by assumption) ?_
    refine G_iconst (pc := 114) dX0_seekRoots_114 ?_
    refine S_callV (pc := 115) (ci := 0) (d2 := 5) (mc2 := 0) (ms2 := 0) (As := [_, _, _]) dX0_seekRoots_115 kX0_euclid lkX0_102 (by assumption) rfl rfl rfl (Nat.le_of_ble_eq_true rfl) ⟨by decide, by decide⟩ (by decide) ?_
    refine c_X0_euclid A3 E3 a3 A3.2.2.2.2.2.2.2.2.2.2.1 (nDE hna) (by unfold EuD; omega) (by omega) (by rw [ea, e18]; exact hroom) ?_
    rw [ea, e18]
    intro t S' o w f v h1 h2 h3 h4 h5 h6
    exact hend2 t S' o w f v h1 (Same_tr S3 (Same_mono h2 (fun _ => EuD_Alg))) h3 h4 h5 h6
  have R1 : Row p sh (rput S 18 pz 64) 18 64 := Row_put r18 Sup_pz (Red_pz (by omega))
  refine GCall.of (by decide) (Nat.le_of_ble_eq_true rfl) (ls := [(0, _), (1, _)]) rfl ?_
  refine S_aload_n (pc := 0) dX0_seekRoots_0 rfl ?_
  refine S_getR (pc := 1) dX0_seekRoots_1 fX0_23 (by assumption) rfl (by assumption) ?_
  refine S_callV (pc := 4) (ci := 4) (d2 := 1) (mc2 := 0) (ms2 := 0) (As := []) dX0_seekRoots_4 kX4_wipe lkX0_63 (by assumption) rfl rfl rfl (Nat.le_of_ble_eq_true rfl) ⟨by decide, by decide⟩ (by decide) ?_
  refine c_X4_wipe r18 ?_
  show G _ _ _ _ _ _ _ _ _ _ _ _ _
  refine S_aload_n (pc := 7) dX0_seekRoots_7 rfl ?_
  refine S_getR (pc := 8) dX0_seekRoots_8 fX0_23 (by assumption) rfl (by assumption) ?_
  refine G_iconst (pc := 11) dX0_seekRoots_11 ?_
  refine G_iconst (pc := 12) dX0_seekRoots_12 ?_
  refine S_callV (pc := 13) (ci := 4) (d2 := 1) (mc2 := 0) (ms2 := 0) (As := [_, _]) dX0_seekRoots_13 kX4_set lkX0_59 (by assumption) rfl rfl rfl (Nat.le_of_ble_eq_true rfl) ⟨by decide, by decide⟩ (by decide) ?_
  refine c_X4_set R1 hpb.2 (by omega) (by omega) ?_
  rw [rput_rv, rput_rput]
  show G _ _ _ _ _ _ _ _ _ _ _ _ _
  refine G_bipush (pc := 16) dX0_seekRoots_16 rfl ?_
  refine G_istore_n (pc := 18) (ls' := [(2, _), (0, _), (1, _)]) dX0_seekRoots_18 (by decide) rfl ?_
  exact l_X0_seekRoots hP ha hN hna hrs hl hend 13 0 (rput S 18 one 64) (by omega) (Alg_18 hA (one_sup (by decide)) (one_red hP)) (EuP_ne hE (pAll hE.2.2.2.2.1 (by decide))) (Same_put Same_rf (aD (by decide)) (aD (by decide))) rput_rv
/-- the i-th of the roots of res, sought from x on -/
noncomputable def srt (p : Int) : Nat → Int → Int → (Int → Int) → Int
  | 0, _, _, _ => -1
  | k + 1, x, left, res =>
    if plen res 64 ≤ 1 then -1
    else if plen res 64 = 2 then (-(res 0)) % p * inv p (res 1) % p
    else if ev res x 64 % p ≠ 0 then srt p k (x + 1) left res
    else if left = 0 then x
    else srt p k (x + 1) (left - 1) (pdiv p res (line p x) (plen res 64) 2).1
theorem line_len {p x : Int} : plen (line p x) 2 = 2 := plen_eq (by omega) (by omega) (fun j h1 h2 => absurd h1 (by omega)) (Or.inr (by show (if (2 : Int) - 1 = 0 then _ else if (2 : Int) - 1 = 1 then (1 : Int) else 0) ≠ 0; rw [if_neg (by decide), if_pos (by decide)]; decide))
theorem pdiv_qlen {p la m : Int} {a b : Int → Int} (hP : IsP p) (hm : 0 < m) (hla : la ≤ 64) (ha : Red p a) (haz : ∀ j : Int, (j < 0 ∨ la ≤ j) → a j = 0) (hb : Red p b) (hbz : ∀ j : Int, (j < 0 ∨ m ≤ j) → b j = 0) (hbl : b (m - 1) ≠ 0) : Sup (pdiv p a b la m).1 64 ∧ Red p (pdiv p a b la m).1 := by
  have h := pdiv_S (la := la) hP hm ha haz hb hbz hbl
  exact ⟨fun j hj => h.2.2.2.2 j (by omega), h.1⟩
set_option maxRecDepth 100000 in
set_option maxHeartbeats 4000000 in
theorem l_X0_soughtRoot {g : GC} {p i : Int} {sh : SH} {S0 : SS} {n o w f v : Nat} {r0 : Int} {Q : Option Value → GA → Nat → Prop}
    (hq : ∀ S : SS, AlgW p sh S → Same AlgD S0 S → Q (some (.int (iI r0))) (hp g sh S) n) :
    ∀ (k : Nat) (x left : Int) (S : SS), x + k = p → 0 ≤ x → 0 ≤ left ∧ left ≤ 100000 → Alg p sh S → EuP p sh S o w f v → Same AlgD S0 S → srt p k x left (rv S 18) = r0 →
    G g mX0_soughtRoot 5 0 0 4 [(3, .int (iI x)), (2, .int (iI left)), (0, gr g 13), (1, .int (iI i))] [] (hp g sh S) n 0 0 Q := by
  intro k
  induction k with
  | zero =>
    intro x left S hx h0 hleft hA hE hS hr
    have hA' := hA
    obtain ⟨hP, hrs, h13, p0, p14, p16, p18, p20, r14, r16, r18, r20⟩ := hA'
    have hpb := hP.bd
    have hrs1 := hrs.1
    refine G_iload_n (pc := 4) dX0_soughtRoot_4 rfl ?_
    refine S_aload_n (pc := 5) dX0_soughtRoot_5 rfl ?_
    refine S_getR (pc := 6) dX0_soughtRoot_6 fX0_41 (by assumption) rfl (by assumption) ?_
    refine S_callV (pc := 9) (ci := 3) (d2 := 1) (mc2 := 0) (ms2 := 0) (As := []) dX0_soughtRoot_9 kX3_prime lkX0_110 (by assumption) rfl rfl rfl (Nat.le_of_ble_eq_true rfl) ⟨by decide, by decide⟩ (by decide) ?_
    refine c_X3_prime hrs ?_
    show G _ _ _ _ _ _ _ _ _ _ _ _ _
    refine G_icmp_ge_t (pc := 12) 127 dX0_soughtRoot_12 rfl (by omega) (by omega) ?_
    refine G_iconst (pc := 127) dX0_soughtRoot_127 ?_
    refine G_iret (pc := 128) dX0_soughtRoot_128 rfl (by decide) ?_
    rw [show (-1 : Int) = r0 from hr]
    exact hq S ⟨hA, o, w, f, v, hE⟩ hS
  | succ k ih =>
    intro x left S hx h0 hleft hA hE hS hr
    have hA' := hA
    obtain ⟨hP, hrs, h13, p0, p14, p16, p18, p20, r14, r16, r18, r20⟩ := hA'
    have hpb := hP.bd
    have hrs1 := hrs.1
    have h181 := r18.1.1
    have h180 := r18.1
    have hL := r18.2.2.1
    have hbl := plen_bd (rv S 18) 64
    have hx0 := r18.2.2.2.2 0
    have hx1 := r18.2.2.2.2 1
    have hem := em_bd (z := -(rv S 18 0)) (p := p) (by omega)
    have hev := em_bd (z := ev (rv S 18) x 64) (p := p) (by omega)
    have hib := inv_bd (x := rv S 18 1) hP
    unfold srt at hr
    have A2 : Alg p sh (rput S 20 (line p x) 2) := Alg_20 hA line_sup (line_red hP)
    have E2 : EuP p sh (rput S 20 (line p x) 2) o w f v := EuP_ne hE (pAll hE.2.2.2.2.1 (by decide))
    have l20 : (rput S 20 (line p x) 2).1 20 1 = 2 := by rw [rput_L, line_len]
    have l18 : (rput S 20 (line p x) 2).1 18 1 = plen (rv S 18) 64 := by rw [rput_F (Or.inl (by decide)), hL]
    have w18 : rv (rput S 20 (line p x) 2) 18 = rv S 18 := rput_ne (by decide)
    have w20 : rv (rput S 20 (line p x) 2) 20 = line p x := rput_rv
    have hlz : ∀ j : Int, (j < 0 ∨ 2 ≤ j) → line p x j = 0 := fun j hj => line_sup j hj
    have hll : line p x (2 - 1) ≠ 0 := by
      show (if (2 : Int) - 1 = 0 then _ else if (2 : Int) - 1 = 1 then (1 : Int) else 0) ≠ 0
      rw [if_neg (by decide), if_pos (by decide)]; decide
    have hrz : ∀ j : Int, (j < 0 ∨ plen (rv S 18) 64 ≤ j) → rv S 18 j = 0 := fun j hj => hj.elim (fun h => r18.2.2.2.1 j (Or.inl h)) (fun h => Sup_len r18.2.2.2.1 h)
    have hql := pdiv_qlen (m := 2) hP (by omega) hbl.2 r18.2.2.2.2 hrz (line_red (x := x) hP) hlz hll
    have hdiv : plen (rv S 18) 64 ≠ 2 → ¬ plen (rv S 18) 64 ≤ 1 → ev (rv S 18) x 64 % p = 0 → left ≠ 0 → G g mX0_soughtRoot 5 0 0 98 [(3, .int (iI x)), (2, .int (iI left)), (0, gr g 13), (1, .int (iI i))] [] (hp g sh S) n 0 0 Q := by
      intro c1 c2 c3 c4
      rw [if_neg c2, if_neg c1, if_neg (fun z => z c3), if_neg c4] at hr
      refine G_iinc (pc := 98) (ls' := [(2, _), (3, _), (0, _), (1, _)]) dX0_soughtRoot_98 rfl (by decide) rfl ?_
      refine S_aload_n (pc := 101) dX0_soughtRoot_101 rfl ?_
      refine S_getR (pc := 102) dX0_soughtRoot_102 fX0_23 (by assumption) rfl (by assumption) ?_
      refine S_aload_n (pc := 105) dX0_soughtRoot_105 rfl ?_
      refine S_aload_n (pc := 106) dX0_soughtRoot_106 rfl ?_
      refine S_getR (pc := 107) dX0_soughtRoot_107 fX0_23 (by assumption) rfl (by assumption) ?_
      refine S_aload_n (pc := 110) dX0_soughtRoot_110 rfl ?_
      refine G_iload_n (pc := 111) dX0_soughtRoot_111 rfl ?_
      refine S_callV (pc := 112) (ci := 0) (d2 := 2) (mc2 := 0) (ms2 := 0) (As := [_]) dX0_soughtRoot_112 kX0_lineAt lkX0_113 (by assumption) rfl rfl rfl (Nat.le_of_ble_eq_true rfl) ⟨by decide, by decide⟩ (by decide) ?_
      refine c_X0_lineAt hA (by omega) ?_
      show G _ _ _ _ _ _ _ _ _ _ _ _ _
      refine S_callV (pc := 115) (ci := 0) (d2 := 4) (mc2 := 0) (ms2 := 0) (As := [_, _]) dX0_soughtRoot_115 kX0_reduce lkX0_95 (by assumption) rfl rfl rfl (Nat.le_of_ble_eq_true rfl) ⟨by decide, by decide⟩ (by decide) ?_
      refine c_X0_reduce A2 A2.2.2.2.2.2.2.2.2.2.2.1 A2.2.2.2.2.2.2.2.2.2.2.2 (by decide) (by decide) (by decide) (by rw [l20]; decide) (fun q r hD => ?_)
      rw [w18, w20, l18, l20] at hD
      obtain ⟨eq, er⟩ := DivS_uniq hP (by omega) (line_red hP) hlz hll hD (pdiv_S hP (by omega) r18.2.2.2.2 hrz (line_red hP) hlz hll)
      have hqs : Sup q 64 := by rw [eq]; exact hql.1
      have hrs' : Sup r 64 := fun j hj => hD.2.2.2.1 j (by omega)
      have A3 : Alg p sh (rput (rput (rput S 20 (line p x) 2) 18 r 64) 16 q 64) := Alg_16 (Alg_18 A2 hrs' hD.2.1) hqs hD.1
      refine S_callV (pc := 118) (ci := 4) (d2 := 3) (mc2 := 0) (ms2 := 0) (As := [_]) dX0_soughtRoot_118 kX4_copy lkX0_91 (by assumption) rfl rfl rfl (Nat.le_of_ble_eq_true rfl) ⟨by decide, by decide⟩ (by decide) ?_
      refine c_X4_copy A3.2.2.2.2.2.2.2.2.2.2.1 A3.2.2.2.2.2.2.2.2.2.1 (by decide) (by omega) ?_
      rw [rput_rv, clip_id hqs]
      show G _ _ _ _ _ _ _ _ _ _ _ _ _
      refine G_iinc (pc := 121) (ls' := [(3, _), (2, _), (0, _), (1, _)]) dX0_soughtRoot_121 rfl (by decide) rfl ?_
      refine G_goto (pc := 124) 4 dX0_soughtRoot_124 rfl ?_
      exact ih (x + 1) (left + -1) _ (by omega) (by omega) (by omega) (Alg_18 A3 hqs hD.1) (EuP_ne (EuP_ne (EuP_ne E2 (pAll hE.2.2.2.2.1 (by decide))) (pAll hE.2.2.2.2.1 (by decide))) (pAll hE.2.2.2.2.1 (by decide))) (Same_put (Same_put (Same_put (Same_put hS (aD (by decide)) (aD (by decide))) (aD (by decide)) (aD (by decide))) (aD (by decide)) (aD (by decide))) (aD (by decide)) (aD (by decide))) (by rw [rput_rv, eq, show left + -1 = left - 1 by omega]; exact hr)
    refine G_iload_n (pc := 4) dX0_soughtRoot_4 rfl ?_
    refine S_aload_n (pc := 5) dX0_soughtRoot_5 rfl ?_
    refine S_getR (pc := 6) dX0_soughtRoot_6 fX0_41 (by assumption) rfl (by assumption) ?_
    refine S_callV (pc := 9) (ci := 3) (d2 := 1) (mc2 := 0) (ms2 := 0) (As := []) dX0_soughtRoot_9 kX3_prime lkX0_110 (by assumption) rfl rfl rfl (Nat.le_of_ble_eq_true rfl) ⟨by decide, by decide⟩ (by decide) ?_
    refine c_X3_prime hrs ?_
    show G _ _ _ _ _ _ _ _ _ _ _ _ _
    refine G_icmp_ge_f (pc := 12) 127 dX0_soughtRoot_12 rfl (by omega) (by omega) ?_
    refine S_aload_n (pc := 15) dX0_soughtRoot_15 rfl ?_
    refine S_getR (pc := 16) dX0_soughtRoot_16 fX0_23 (by assumption) rfl (by assumption) ?_
    refine S_callV (pc := 19) (ci := 4) (d2 := 1) (mc2 := 0) (ms2 := 0) (As := []) dX0_soughtRoot_19 kX4_length lkX0_45 (by assumption) rfl rfl rfl (Nat.le_of_ble_eq_true rfl) ⟨by decide, by decide⟩ (by decide) ?_
    refine c_X4_length h180 ?_
    show G _ _ _ _ _ _ _ _ _ _ _ _ _
    refine G_iconst (pc := 22) dX0_soughtRoot_22 ?_
    refine G_icmp_le (pc := 23) 127 dX0_soughtRoot_23 rfl (by omega) (fun c23 => ?_) (fun c23 => ?_)
    · skip
      refine G_iconst (pc := 127) dX0_soughtRoot_127 ?_
      refine G_iret (pc := 128) dX0_soughtRoot_128 rfl (by decide) ?_
      rw [if_pos (by omega)] at hr
      rw [hr]
      exact hq S ⟨hA, o, w, f, v, hE⟩ hS
    · skip
      refine S_aload_n (pc := 26) dX0_soughtRoot_26 rfl ?_
      refine S_getR (pc := 27) dX0_soughtRoot_27 fX0_23 (by assumption) rfl (by assumption) ?_
      refine S_callV (pc := 30) (ci := 4) (d2 := 1) (mc2 := 0) (ms2 := 0) (As := []) dX0_soughtRoot_30 kX4_length lkX0_45 (by assumption) rfl rfl rfl (Nat.le_of_ble_eq_true rfl) ⟨by decide, by decide⟩ (by decide) ?_
      refine c_X4_length h180 ?_
      show G _ _ _ _ _ _ _ _ _ _ _ _ _
      refine G_iconst (pc := 33) dX0_soughtRoot_33 ?_
      refine G_icmp_ne (pc := 34) 77 dX0_soughtRoot_34 rfl (by omega) (fun c34 => ?_) (fun c34 => ?_)
      · skip
        refine S_aload_n (pc := 77) dX0_soughtRoot_77 rfl ?_
        refine S_aload_n (pc := 78) dX0_soughtRoot_78 rfl ?_
        refine S_getR (pc := 79) dX0_soughtRoot_79 fX0_23 (by assumption) rfl (by assumption) ?_
        refine G_iload_n (pc := 82) dX0_soughtRoot_82 rfl ?_
        refine S_callV (pc := 83) (ci := 0) (d2 := 2) (mc2 := 0) (ms2 := 0) (As := [_, _]) dX0_soughtRoot_83 kX0_evaluated lkX0_117 (by assumption) rfl rfl rfl (Nat.le_of_ble_eq_true rfl) ⟨by decide, by decide⟩ (by decide) ?_
        refine c_X0_evaluated hA r18 (by omega) ?_
        show G _ _ _ _ _ _ _ _ _ _ _ _ _
        refine G_if_eq (pc := 86) 92 dX0_soughtRoot_86 rfl (by omega) (fun c86 => ?_) (fun c86 => ?_)
        · skip
          refine G_iload_n (pc := 92) dX0_soughtRoot_92 rfl ?_
          refine G_if_ne (pc := 93) 98 dX0_soughtRoot_93 rfl (by omega) (fun c93 => ?_) (fun c93 => ?_)
          · skip
            exact hdiv (by omega) (by omega) c86 (by omega)
          · skip
            refine G_iload_n (pc := 96) dX0_soughtRoot_96 rfl ?_
            refine G_iret (pc := 97) dX0_soughtRoot_97 rfl (by decide) ?_
            rw [if_neg (by omega), if_neg (by omega), if_neg (fun z => z c86), if_pos (by omega)] at hr
            rw [hr]
            exact hq S ⟨hA, o, w, f, v, hE⟩ hS
        · skip
          refine G_goto (pc := 89) 121 dX0_soughtRoot_89 rfl ?_
          refine G_iinc (pc := 121) (ls' := [(3, _), (2, _), (0, _), (1, _)]) dX0_soughtRoot_121 rfl (by decide) rfl ?_
          refine G_goto (pc := 124) 4 dX0_soughtRoot_124 rfl ?_
          rw [if_neg (by omega), if_neg (by omega), if_pos c86] at hr
          exact ih (x + 1) left S (by omega) (by omega) hleft hA hE hS hr
      · skip
        refine S_aload_n (pc := 37) dX0_soughtRoot_37 rfl ?_
        refine S_getR (pc := 38) dX0_soughtRoot_38 fX0_41 (by assumption) rfl (by assumption) ?_
        refine S_aload_n (pc := 41) dX0_soughtRoot_41 rfl ?_
        refine S_getR (pc := 42) dX0_soughtRoot_42 fX0_41 (by assumption) rfl (by assumption) ?_
        refine S_aload_n (pc := 45) dX0_soughtRoot_45 rfl ?_
        refine S_getR (pc := 46) dX0_soughtRoot_46 fX0_23 (by assumption) rfl (by assumption) ?_
        refine G_iconst (pc := 49) dX0_soughtRoot_49 ?_
        refine S_callV (pc := 50) (ci := 4) (d2 := 1) (mc2 := 0) (ms2 := 0) (As := [_]) dX0_soughtRoot_50 kX4_get lkX0_49 (by assumption) rfl rfl rfl (Nat.le_of_ble_eq_true rfl) ⟨by decide, by decide⟩ (by decide) ?_
        refine c_X4_get r18 (by omega) ?_
        show G _ _ _ _ _ _ _ _ _ _ _ _ _
        refine G_ineg (pc := 53) dX0_soughtRoot_53 ?_
        refine G_i2l (pc := 54) dX0_soughtRoot_54 (by omega) ?_
        refine S_callV (pc := 55) (ci := 3) (d2 := 1) (mc2 := 0) (ms2 := 0) (As := [_]) dX0_soughtRoot_55 kX3_rest lkX0_53 (by assumption) rfl rfl rfl (Nat.le_of_ble_eq_true rfl) ⟨by decide, by decide⟩ (by decide) ?_
        refine c_X3_rest hrs hP (by omega) ?_
        show G _ _ _ _ _ _ _ _ _ _ _ _ _
        refine S_aload_n (pc := 58) dX0_soughtRoot_58 rfl ?_
        refine S_getR (pc := 59) dX0_soughtRoot_59 fX0_41 (by assumption) rfl (by assumption) ?_
        refine S_aload_n (pc := 62) dX0_soughtRoot_62 rfl ?_
        refine S_getR (pc := 63) dX0_soughtRoot_63 fX0_23 (by assumption) rfl (by assumption) ?_
        refine G_iconst (pc := 66) dX0_soughtRoot_66 ?_
        refine S_callV (pc := 67) (ci := 4) (d2 := 1) (mc2 := 0) (ms2 := 0) (As := [_]) dX0_soughtRoot_67 kX4_get lkX0_49 (by assumption) rfl rfl rfl (Nat.le_of_ble_eq_true rfl) ⟨by decide, by decide⟩ (by decide) ?_
        refine c_X4_get r18 (by omega) ?_
        show G _ _ _ _ _ _ _ _ _ _ _ _ _
        refine S_callV (pc := 70) (ci := 3) (d2 := 3) (mc2 := 0) (ms2 := 0) (As := [_]) dX0_soughtRoot_70 kX3_inverse lkX0_82 (by assumption) rfl rfl rfl (Nat.le_of_ble_eq_true rfl) ⟨by decide, by decide⟩ (by decide) ?_
        refine c_X3_inverse hrs hP hx1 ?_
        show G _ _ _ _ _ _ _ _ _ _ _ _ _
        refine S_callV (pc := 73) (ci := 3) (d2 := 1) (mc2 := 0) (ms2 := 0) (As := [_, _]) dX0_soughtRoot_73 kX3_product lkX0_85 (by assumption) rfl rfl rfl (Nat.le_of_ble_eq_true rfl) ⟨by decide, by decide⟩ (by decide) ?_
        refine c_X3_product hrs hP hem hib ?_
        show G _ _ _ _ _ _ _ _ _ _ _ _ _
        refine G_iret (pc := 76) dX0_soughtRoot_76 rfl (by decide) ?_
        rw [if_neg (by omega), if_pos (by omega)] at hr
        rw [hr]
        exact hq S ⟨hA, o, w, f, v, hE⟩ hS
set_option maxRecDepth 100000 in
set_option maxHeartbeats 4000000 in
theorem c_X0_soughtRoot {g : GC} {p i : Int} {sh : SH} {S : SS} {n : Nat} {Q : Option Value → GA → Nat → Prop} (hW : AlgW p sh S) (hi : 0 ≤ i ∧ i ≤ 100000)
    (hq : ∀ S' : SS, AlgW p sh S' → Same AlgD S S' → Q (some (.int (iI (srt p p.toNat 0 i (rv S 18))))) (hp g sh S') n) : GCall g mX0_soughtRoot 5 0 0 [gr g 13, .int (iI i)] (hp g sh S) n Q := by
  obtain ⟨hA, o, w, f, v, hE⟩ := hW
  have hpb := hA.1.bd
  refine GCall.of (by decide) (Nat.le_of_ble_eq_true rfl) (ls := [(0, _), (1, _)]) rfl ?_
  refine G_iload_n (pc := 0) dX0_soughtRoot_0 rfl ?_
  refine G_istore_n (pc := 1) (ls' := [(2, _), (0, _), (1, _)]) dX0_soughtRoot_1 (by decide) rfl ?_
  refine G_iconst (pc := 2) dX0_soughtRoot_2 ?_
  refine G_istore_n (pc := 3) (ls' := [(3, _), (2, _), (0, _), (1, _)]) dX0_soughtRoot_3 (by decide) rfl ?_
  exact l_X0_soughtRoot hq p.toNat 0 i S (by omega) (by omega) hi hA hE Same_rf rfl
