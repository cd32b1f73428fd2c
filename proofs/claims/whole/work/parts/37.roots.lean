/-! Algebra: seekRoots -/
theorem plen_more {xs : Int → Int} {N M : Nat} (h : Sup xs N) (hN : N ≤ M) : plen xs M = plen xs N := by
  have h1 := plen_bd xs N
  refine plen_eq h1.1 (by omega) (fun j hj _ => Sup_len h hj) ?_
  by_cases h0 : plen xs N = 0
  · exact Or.inl h0
  · exact Or.inr (plen_lead (by omega))
theorem shc : ∀ b, b < 31 → ((iI ((b : Nat) : Int) &&& 31).toBitVec.smod 32).toNat = b := by decide +kernel
theorem iI_shrK {a : Int} {b : Nat} (h : 0 ≤ a ∧ a ≤ 2147483647) (hb : b < 31) : iI a >>> (iI (b : Int) &&& 31) = iI (a / 2 ^ b) := by
  obtain ⟨m, rfl⟩ : ∃ m : Nat, a = m := ⟨a.toNat, by omega⟩
  have e : ((m : Int) / 2 ^ b) = ((m / 2 ^ b : Nat) : Int) := by rw [Int.natCast_ediv, Int.natCast_pow]; rfl
  rw [e, iI_nI m, iI_nI]
  exact pk_shrN (by omega) _ b (shc b hb)
/-- x to the power of p's upper bits, squared (and times x) -/
def skm (p : Int) (s : Int → Int) (t : Nat) : Int → Int := if p / 2 ^ (12 - t) % 2 = 1 then pmul p (pmul p s s) (line p 0) else pmul p s s
noncomputable def sk (p : Int) (a : Int → Int) : Nat → Int → Int
  | 0 => one
  | t + 1 => (pdiv p (skm p (sk p a t) t) a (plen (skm p (sk p a t) t) 64) (plen a 64)).2
theorem pdiv_len {p la m : Int} {a b : Int → Int} (hP : IsP p) (hm : 0 < m) (hm2 : m ≤ 64) (ha : Red p a) (haz : ∀ j : Int, (j < 0 ∨ la ≤ j) → a j = 0) (hb : Red p b) (hbz : ∀ j : Int, (j < 0 ∨ m ≤ j) → b j = 0) (hbl : b (m - 1) ≠ 0) : Sup (pdiv p a b la m).2 64 ∧ plen (pdiv p a b la m).2 64 ≤ m - 1 := by
  have h := pdiv_S (la := la) hP hm ha haz hb hbz hbl
  exact ⟨fun j hj => h.2.2.2.1 j (by omega), plen_le (by omega) (fun j h1 _ => h.2.2.2.1 j (Or.inr h1))⟩
theorem skm_ok {p : Int} {s : Int → Int} {t : Nat} (hP : IsP p) (hs : Sup s 64) (hl : plen s 64 ≤ 32) : Sup (skm p s t) 64 ∧ Red p (skm p s t) ∧ Sup (pmul p s s) 64 ∧ plen (pmul p s s) 64 ≤ 63 := by
  have hb := hP.bd
  have h1 : Sup (pmul p s s) 64 := pmul_sup (la := 32) (lb := 32) (fun j hj => Sup_len hs (by omega)) (fun j hj => Sup_len hs (by omega)) (by omega)
  have h2 : plen (pmul p s s) 64 ≤ 63 := plen_le (by omega) (fun j hj _ => pmul_out (la := 32) (lb := 32) (fun j hj => Sup_len hs (by omega)) (fun j hj => Sup_len hs (by omega)) (by omega))
  refine ⟨?_, ?_, h1, h2⟩
  · unfold skm
    by_cases hc : p / 2 ^ (12 - t) % 2 = 1
    · rw [if_pos hc]
      exact pmul_sup (la := 63) (lb := 2) (fun j hj => Sup_len h1 (by omega)) (fun j hj => line_sup j (Or.inr hj)) (by omega)
    · rw [if_neg hc]; exact h1
  · unfold skm
    by_cases hc : p / 2 ^ (12 - t) % 2 = 1
    · rw [if_pos hc]; exact pmul_red (by omega)
    · rw [if_neg hc]; exact pmul_red (by omega)
theorem sk_ok {p : Int} {a : Int → Int} {N : Nat} (hP : IsP p) (ha : Sup a N) (hr : Red p a) (hN : N ≤ 32) (hl : 0 < plen a 64) : ∀ t : Nat, Sup (sk p a t) 64 ∧ Red p (sk p a t) ∧ plen (sk p a t) 64 ≤ 32
  | 0 => ⟨one_sup (by decide), one_red hP, plen_le (by omega) (fun j h1 h2 => by show iup pz 0 1 j = 0; rw [iup_ne (by omega)]; rfl)⟩
  | t + 1 => by
    obtain ⟨h1, h2, h3⟩ := sk_ok hP ha hr hN hl t
    obtain ⟨k1, k2, -, -⟩ := skm_ok (t := t) hP h1 h3
    have e := plen_more (M := 64) ha (by omega)
    have hb := plen_bd a N
    have h64 : Sup a 64 := Sup_more ha (by omega)
    have haz : ∀ j : Int, (j < 0 ∨ plen a 64 ≤ j) → a j = 0 := fun j hj => hj.elim (fun h => h64 j (Or.inl h)) (fun h => Sup_len h64 h)
    have hmz : ∀ j : Int, (j < 0 ∨ plen (skm p (sk p a t) t) 64 ≤ j) → skm p (sk p a t) t j = 0 := fun j hj => hj.elim (fun h => k1 j (Or.inl h)) (fun h => Sup_len k1 h)
    obtain ⟨g1, g2⟩ := pdiv_len hP hl (by omega) k2 hmz hr haz (plen_lead hl)
    exact ⟨g1, (pdiv_S hP hl k2 hmz hr haz (plen_lead hl)).2.1, by show plen (pdiv p _ a _ _).2 64 ≤ 32; omega⟩
/-- x to the power p less x, by a -/
noncomputable def skx (p : Int) (a : Int → Int) : Int → Int := padd p (sk p a 13) (-1) (line p 0) 0
set_option maxRecDepth 100000 in
set_option maxHeartbeats 4000000 in
theorem l_X0_seekRoots {g : GC} {p : Int} {sh : SH} {S0 : SS} {n a N o w f v : Nat} {Q : Option Value → GA → Nat → Prop} (hP : IsP p) (ha0 : Row p sh S0 a N) (hN : N ≤ 32) (hna : ¬ AlgD a) (hrs0 : IsRests p sh S0 12) (hl : 0 < plen (rv S0 a) 64)
    (hend : ∀ S : SS, Alg p sh S → EuP p sh S o w f v → Same AlgD S0 S → rv S 18 = sk p (rv S0 a) 13 → G g mX0_seekRoots 6 0 0 93 [(0, gr g 13), (1, gr g a)] [] (hp g sh S) n 0 0 Q) :
    ∀ (k t : Nat) (S : SS), t + k = 13 → Alg p sh S → EuP p sh S o w f v → Same AlgD S0 S → rv S 18 = sk p (rv S0 a) t → G g mX0_seekRoots 6 0 0 19 [(2, .int (iI (12 - t))), (0, gr g 13), (1, gr g a)] [] (hp g sh S) n 0 0 Q := by
  have hpb := hP.bd
  have hna1 := nDE1 hna ha0 hrs0
  have hsa : Sup (rv S0 a) N := ha0.2.2.2.1
  have h64 : Sup (rv S0 a) 64 := Sup_more hsa (by omega)
  have haz : ∀ j : Int, (j < 0 ∨ plen (rv S0 a) 64 ≤ j) → rv S0 a j = 0 := fun j hj => hj.elim (fun h => h64 j (Or.inl h)) (fun h => Sup_len h64 h)
  have hpl := plen_more (M := 64) hsa (by omega)
  intro k
  induction k with
  | zero =>
    intro t S ht hA hE hS h18
    have h13 := hA.2.2.1
    refine G_iload_n (pc := 19) dX0_seekRoots_19 rfl ?_
    refine G_if_lt_t (pc := 20) 93 dX0_seekRoots_20 rfl (by omega) (by omega) ?_
    refine G_ls (ls' := [(0, _), (1, _)]) (lsub_c rfl (lsub_c rfl lsub_n)) ?_
    rw [show t = 13 by omega] at h18
    exact hend S hA hE hS h18
  | succ k ih =>
    intro t S ht hA hE hS h18
    have hA' := hA
    obtain ⟨-, hrs, h13, p0, p14, p16, p18, p20, r14, r16, r18, r20⟩ := hA'
    have h181 := r18.1.1
    have hrs1 := hrs.1
    have hok := sk_ok hP hsa ha0.2.2.2.2 hN hl t
    have hkm := skm_ok (t := t) hP hok.1 hok.2.2
    have hL18 := r18.2.2.1
    rw [h18] at hL18
    have hred : ∀ S2 : SS, Alg p sh S2 → EuP p sh S2 o w f v → Same AlgD S0 S2 → rv S2 18 = skm p (sk p (rv S0 a) t) t → G g mX0_seekRoots 6 0 0 77 [(2, .int (iI (12 - t))), (0, gr g 13), (1, gr g a)] [] (hp g sh S2) n 0 0 Q := by
      intro S2 A2 E2 S2s v18
      have q18 := A2.2.2.2.2.2.2.1
      have a2 : Row p sh S2 a N := Same_row S2s hna hna1 ha0
      have ea : rv S2 a = rv S0 a := Same_rv S2s hna1
      have hLa : S2.1 a 1 = plen (rv S0 a) 64 := by rw [a2.2.2.1, ea, hpl]
      have hL2 : S2.1 18 1 = plen (skm p (sk p (rv S0 a) t) t) 64 := by rw [A2.2.2.2.2.2.2.2.2.2.2.1.2.2.1, v18]
      have hmz : ∀ j : Int, (j < 0 ∨ plen (skm p (sk p (rv S0 a) t) t) 64 ≤ j) → skm p (sk p (rv S0 a) t) t j = 0 := fun j hj => hj.elim (fun h => hkm.1 j (Or.inl h)) (fun h => Sup_len hkm.1 h)
      have hbm := plen_bd (skm p (sk p (rv S0 a) t) t) 64
      have hba := plen_bd (rv S0 a) 64
      refine S_aload_n (pc := 77) dX0_seekRoots_77 rfl ?_
      refine S_aload_n (pc := 78) dX0_seekRoots_78 rfl ?_
      refine S_getR (pc := 79) dX0_seekRoots_79 fX0_23 (by assumption) rfl (by assumption) ?_
      refine S_aload_n (pc := 82) dX0_seekRoots_82 rfl ?_
      refine S_callV (pc := 83) (ci := 0) (d2 := 4) (mc2 := 0) (ms2 := 0) (As := [_, _]) dX0_seekRoots_83 kX0_reduce lkX0_95 (by assumption) rfl rfl rfl (Nat.le_of_ble_eq_true rfl) ⟨by decide, by decide⟩ (by decide) ?_
      refine c_X0_reduce A2 A2.2.2.2.2.2.2.2.2.2.2.1 a2 (nD hna (aD (by decide))) (by decide) (nD hna (aD (by decide))) (by omega) (fun q r hD => ?_)
      rw [v18, ea, hLa, hL2] at hD
      obtain ⟨eq, er⟩ := DivS_uniq hP hl ha0.2.2.2.2 haz (plen_lead hl) hD (pdiv_S hP hl hkm.2.1 hmz ha0.2.2.2.2 haz (plen_lead hl))
      have hqs : Sup q 64 := fun j hj => hD.2.2.2.2 j (by omega)
      have hrs' : Sup r 64 := fun j hj => hD.2.2.2.1 j (by omega)
      refine G_pop (pc := 86) dX0_seekRoots_86 rfl ?_
      refine G_iinc (pc := 87) (ls' := [(2, _), (0, _), (1, _)]) dX0_seekRoots_87 rfl (by decide) rfl ?_
      refine G_goto (pc := 90) 19 dX0_seekRoots_90 rfl ?_
      have := ih (t + 1) (rput (rput S2 18 r 64) 16 q 64) (by omega) (Alg_16 (Alg_18 A2 hrs' hD.2.1) hqs hD.1) (EuP_ne (EuP_ne E2 (pAll E2.2.2.2.2.1 (by decide))) (pAll E2.2.2.2.2.1 (by decide))) (Same_put (Same_put S2s (aD (by decide)) (aD (by decide))) (aD (by decide)) (aD (by decide))) (by rw [rput_ne (by decide), rput_rv, er]; rfl)
      rw [show (12 : Int) - ((t + 1 : Nat) : Int) = 12 - t + -1 by omega] at this
      exact this
    have e12 : (12 : Int) - t = ((12 - t : Nat) : Int) := by omega
    have hsh : 0 ≤ p / 2 ^ (12 - t) ∧ p / 2 ^ (12 - t) ≤ 2147483647 := ⟨Int.ediv_nonneg (by omega) (Int.le_of_lt (Int.pow_pos (by decide))), by have := Int.ediv_le_self (b := 2 ^ (12 - t)) (a := p) (by omega); omega⟩
    have hm1 : Sup (pmul p (rv S 18) (rv S 18)) 64 := by rw [h18]; exact hkm.2.2.1
    have hA1 : Alg p sh (rput (rput S 14 (pmul p (rv S 18) (rv S 18)) 64) 18 (pmul p (rv S 18) (rv S 18)) 64) := Alg_18 (Alg_14 hA hm1 (pmul_red (by omega))) hm1 (pmul_red (by omega))
    have hE1 : EuP p sh (rput (rput S 14 (pmul p (rv S 18) (rv S 18)) 64) 18 (pmul p (rv S 18) (rv S 18)) 64) o w f v := EuP_ne (EuP_ne hE (pAll hE.2.2.2.2.1 (by decide))) (pAll hE.2.2.2.2.1 (by decide))
    have hS1 : Same AlgD S0 (rput (rput S 14 (pmul p (rv S 18) (rv S 18)) 64) 18 (pmul p (rv S 18) (rv S 18)) 64) := Same_put (Same_put hS (aD (by decide)) (aD (by decide))) (aD (by decide)) (aD (by decide))
    have hA2 : Alg p sh (rput (rput (rput S 14 (pmul p (rv S 18) (rv S 18)) 64) 18 (pmul p (rv S 18) (rv S 18)) 64) 20 (line p 0) 2) := Alg_20 hA1 line_sup (line_red hP)
    have l18 : (rput (rput (rput S 14 (pmul p (rv S 18) (rv S 18)) 64) 18 (pmul p (rv S 18) (rv S 18)) 64) 20 (line p 0) 2).1 18 1 = plen (pmul p (rv S 18) (rv S 18)) 64 := by rw [rput_F (Or.inl (by decide))]; exact rput_L
    have l20 : (rput (rput (rput S 14 (pmul p (rv S 18) (rv S 18)) 64) 18 (pmul p (rv S 18) (rv S 18)) 64) 20 (line p 0) 2).1 20 1 ≤ 2 := by rw [rput_L]; exact (plen_bd _ 2).2
    have w18 : rv (rput (rput (rput S 14 (pmul p (rv S 18) (rv S 18)) 64) 18 (pmul p (rv S 18) (rv S 18)) 64) 20 (line p 0) 2) 18 = pmul p (rv S 18) (rv S 18) := by rw [rput_ne (by decide), rput_rv]
    have w20 : rv (rput (rput (rput S 14 (pmul p (rv S 18) (rv S 18)) 64) 18 (pmul p (rv S 18) (rv S 18)) 64) 20 (line p 0) 2) 20 = line p 0 := rput_rv
    have hp63 : plen (pmul p (rv S 18) (rv S 18)) 64 ≤ 63 := by rw [h18]; exact hkm.2.2.2
    have hm2 : Sup (pmul p (pmul p (rv S 18) (rv S 18)) (line p 0)) 64 := pmul_sup (la := 63) (lb := 2) (fun j hj => Sup_len hm1 (by omega)) (fun j hj => line_sup j (Or.inr hj)) (by omega)
    refine G_iload_n (pc := 19) dX0_seekRoots_19 rfl ?_
    refine G_if_lt_f (pc := 20) 93 dX0_seekRoots_20 rfl (by omega) (by omega) ?_
    refine S_aload_n (pc := 23) dX0_seekRoots_23 rfl ?_
    refine S_getR (pc := 24) dX0_seekRoots_24 fX0_23 (by assumption) rfl (by assumption) ?_
    refine S_aload_n (pc := 27) dX0_seekRoots_27 rfl ?_
    refine S_aload_n (pc := 28) dX0_seekRoots_28 rfl ?_
    refine S_getR (pc := 29) dX0_seekRoots_29 fX0_23 (by assumption) rfl (by assumption) ?_
    refine S_aload_n (pc := 32) dX0_seekRoots_32 rfl ?_
    refine S_getR (pc := 33) dX0_seekRoots_33 fX0_23 (by assumption) rfl (by assumption) ?_
    refine S_callV (pc := 36) (ci := 0) (d2 := 3) (mc2 := 0) (ms2 := 0) (As := [_, _]) dX0_seekRoots_36 kX0_multiplied lkX0_99 (by assumption) rfl rfl rfl (Nat.le_of_ble_eq_true rfl) ⟨by decide, by decide⟩ (by decide) ?_
    refine c_X0_multiplied hA r18 r18 (by decide) (by decide) (by omega) ?_
    show G _ _ _ _ _ _ _ _ _ _ _ _ _
    refine S_callV (pc := 39) (ci := 4) (d2 := 3) (mc2 := 0) (ms2 := 0) (As := [_]) dX0_seekRoots_39 kX4_copy lkX0_91 (by assumption) rfl rfl rfl (Nat.le_of_ble_eq_true rfl) ⟨by decide, by decide⟩ (by decide) ?_
    refine c_X4_copy (Row_ne r18 (by decide)) (Row_put r14 hm1 (pmul_red (by omega))) (by decide) (by omega) ?_
    rw [rput_rv, clip_id hm1]
    show G _ _ _ _ _ _ _ _ _ _ _ _ _
    refine S_aload_n (pc := 42) dX0_seekRoots_42 rfl ?_
    refine S_getR (pc := 43) dX0_seekRoots_43 fX0_41 (by assumption) rfl (by assumption) ?_
    refine S_callV (pc := 46) (ci := 3) (d2 := 1) (mc2 := 0) (ms2 := 0) (As := []) dX0_seekRoots_46 kX3_prime lkX0_110 (by assumption) rfl rfl rfl (Nat.le_of_ble_eq_true rfl) ⟨by decide, by decide⟩ (by decide) ?_
    refine c_X3_prime hA1.2.1 ?_
    show G _ _ _ _ _ _ _ _ _ _ _ _ _
    refine G_iload_n (pc := 49) dX0_seekRoots_49 rfl ?_
    refine G_ishr (pc := 50) dX0_seekRoots_50 (show iI p >>> (iI (12 - (t : Int)) &&& 31) = iI (p / 2 ^ (12 - t)) by rw [e12]; exact iI_shrK (by omega) (by omega)) ?_
    refine G_iconst (pc := 51) dX0_seekRoots_51 ?_
    refine G_iand (pc := 52) dX0_seekRoots_52 (iI_and1 hsh) ?_
    refine G_iconst (pc := 53) dX0_seekRoots_53 ?_
    refine G_icmp_ne (pc := 54) 77 dX0_seekRoots_54 rfl (by omega) (fun c54 => ?_) (fun c54 => ?_)
    · skip
      first | exact hred _ hA1 hE1 hS1 (by rw [rput_rv, h18]; unfold skm; rw [if_neg c54]) | exact hred _ (Alg_18 (Alg_14 hA2 hm2 (pmul_red (by omega))) hm2 (pmul_red (by omega))) (EuP_ne (EuP_ne (EuP_ne hE1 (pAll hE.2.2.2.2.1 (by decide))) (pAll hE.2.2.2.2.1 (by decide))) (pAll hE.2.2.2.2.1 (by decide))) (Same_put (Same_put (Same_put hS1 (aD (by decide)) (aD (by decide))) (aD (by decide)) (aD (by decide))) (aD (by decide)) (aD (by decide))) (by rw [rput_rv, h18]; unfold skm; rw [if_pos (by omega)])
    · skip
      refine S_aload_n (pc := 57) dX0_seekRoots_57 rfl ?_
      refine S_getR (pc := 58) dX0_seekRoots_58 fX0_23 (by assumption) rfl (by assumption) ?_
      refine S_aload_n (pc := 61) dX0_seekRoots_61 rfl ?_
      refine S_aload_n (pc := 62) dX0_seekRoots_62 rfl ?_
      refine S_getR (pc := 63) dX0_seekRoots_63 fX0_23 (by assumption) rfl (by assumption) ?_
      refine S_aload_n (pc := 66) dX0_seekRoots_66 rfl ?_
      refine G_iconst (pc := 67) dX0_seekRoots_67 ?_
      refine S_callV (pc := 68) (ci := 0) (d2 := 2) (mc2 := 0) (ms2 := 0) (As := [_]) dX0_seekRoots_68 kX0_lineAt lkX0_113 (by assumption) rfl rfl rfl (Nat.le_of_ble_eq_true rfl) ⟨by decide, by decide⟩ (by decide) ?_
      refine c_X0_lineAt hA1 (by omega) ?_
      show G _ _ _ _ _ _ _ _ _ _ _ _ _
      refine S_callV (pc := 71) (ci := 0) (d2 := 3) (mc2 := 0) (ms2 := 0) (As := [_, _]) dX0_seekRoots_71 kX0_multiplied lkX0_99 (by assumption) rfl rfl rfl (Nat.le_of_ble_eq_true rfl) ⟨by decide, by decide⟩ (by decide) ?_
      refine c_X0_multiplied hA2 hA2.2.2.2.2.2.2.2.2.2.2.1 hA2.2.2.2.2.2.2.2.2.2.2.2 (by decide) (by decide) (by rw [l18]; omega) ?_
      rw [w18, w20]
      show G _ _ _ _ _ _ _ _ _ _ _ _ _
      refine S_callV (pc := 74) (ci := 4) (d2 := 3) (mc2 := 0) (ms2 := 0) (As := [_]) dX0_seekRoots_74 kX4_copy lkX0_91 (by assumption) rfl rfl rfl (Nat.le_of_ble_eq_true rfl) ⟨by decide, by decide⟩ (by decide) ?_
      refine c_X4_copy (Row_ne hA2.2.2.2.2.2.2.2.2.2.2.1 (by decide)) (Row_put hA2.2.2.2.2.2.2.2.2.1 hm2 (pmul_red (by omega))) (by decide) (by omega) ?_
      rw [rput_rv, clip_id hm2]
      show G _ _ _ _ _ _ _ _ _ _ _ _ _
      first | exact hred _ hA1 hE1 hS1 (by rw [rput_rv, h18]; unfold skm; rw [if_neg c54]) | exact hred _ (Alg_18 (Alg_14 hA2 hm2 (pmul_red (by omega))) hm2 (pmul_red (by omega))) (EuP_ne (EuP_ne (EuP_ne hE1 (pAll hE.2.2.2.2.1 (by decide))) (pAll hE.2.2.2.2.1 (by decide))) (pAll hE.2.2.2.2.1 (by decide))) (Same_put (Same_put (Same_put hS1 (aD (by decide)) (aD (by decide))) (aD (by decide)) (aD (by decide))) (aD (by decide)) (aD (by decide))) (by rw [rput_rv, h18]; unfold skm; rw [if_pos (by omega)])
