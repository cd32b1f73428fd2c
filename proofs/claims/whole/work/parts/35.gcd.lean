/-! Algebra: commonDivisor -/
/-! what Perm4 says, without omega -/
theorem pO {o w f v x : Nat} (h : Perm4 o w f v) (hx : x ≠ 22 ∧ x ≠ 24 ∧ x ≠ 26 ∧ x ≠ 28) : o ≠ x := by
  obtain ⟨hx1, hx2, hx3, hx4⟩ := hx
  rcases h.1 with e | e | e | e <;> rw [e] <;> exact Ne.symm (by assumption)
theorem pW {o w f v x : Nat} (h : Perm4 o w f v) (hx : x ≠ 22 ∧ x ≠ 24 ∧ x ≠ 26 ∧ x ≠ 28) : w ≠ x := by
  obtain ⟨hx1, hx2, hx3, hx4⟩ := hx
  rcases h.2.1 with e | e | e | e <;> rw [e] <;> exact Ne.symm (by assumption)
theorem pF {o w f v x : Nat} (h : Perm4 o w f v) (hx : x ≠ 22 ∧ x ≠ 24 ∧ x ≠ 26 ∧ x ≠ 28) : f ≠ x := by
  obtain ⟨hx1, hx2, hx3, hx4⟩ := hx
  rcases h.2.2.1 with e | e | e | e <;> rw [e] <;> exact Ne.symm (by assumption)
theorem pV {o w f v x : Nat} (h : Perm4 o w f v) (hx : x ≠ 22 ∧ x ≠ 24 ∧ x ≠ 26 ∧ x ≠ 28) : v ≠ x := by
  obtain ⟨hx1, hx2, hx3, hx4⟩ := hx
  rcases h.2.2.2.1 with e | e | e | e <;> rw [e] <;> exact Ne.symm (by assumption)
theorem pOW {o w f v : Nat} (h : Perm4 o w f v) : o ≠ w := h.2.2.2.2.1
theorem pOF {o w f v : Nat} (h : Perm4 o w f v) : o ≠ f := h.2.2.2.2.2.1
theorem pOV {o w f v : Nat} (h : Perm4 o w f v) : o ≠ v := h.2.2.2.2.2.2.1
theorem pWF {o w f v : Nat} (h : Perm4 o w f v) : w ≠ f := h.2.2.2.2.2.2.2.1
theorem pWV {o w f v : Nat} (h : Perm4 o w f v) : w ≠ v := h.2.2.2.2.2.2.2.2.1
theorem pFV {o w f v : Nat} (h : Perm4 o w f v) : f ≠ v := h.2.2.2.2.2.2.2.2.2
theorem pAll {o w f v x : Nat} (h : Perm4 o w f v) (hx : x ≠ 22 ∧ x ≠ 24 ∧ x ≠ 26 ∧ x ≠ 28) : x ≠ o ∧ x ≠ w ∧ x ≠ f ∧ x ≠ v := ⟨Ne.symm (pO h hx), Ne.symm (pW h hx), Ne.symm (pF h hx), Ne.symm (pV h hx)⟩
def AlgD (a : Nat) : Prop := 13 ≤ a ∧ a ≤ 29
/-- the Algebra object and its rows stand -/
def AlgW (p : Int) (sh : SH) (S : SS) : Prop := Alg p sh S ∧ ∃ o w f v : Nat, EuP p sh S o w f v
/-- a over its LEAD, at first f times a -/
def pscl (p : Int) (O F : Int → Int) : Int → Int := padd p pz (inv p (O (plen O 64 - 1))) F 0
theorem EuD_Alg {a : Nat} (h : EuD a) : AlgD a := by unfold EuD at h; unfold AlgD; omega
theorem pscl_ok {p : Int} {O F : Int → Int} (hP : IsP p) (hF : Sup F 64) : Sup (pscl p O F) 64 ∧ Red p (pscl p O F) := by
  have hb := hP.bd
  exact ⟨padd_sup (la := 64) (Red_pz (by omega)) Sup_pz (Int.le_refl _) hF (by omega), padd_red (by omega)⟩
theorem aD {x : Nat} (h : 13 ≤ x ∧ x ≤ 29) : AlgD x := h
theorem aO {o w f v : Nat} (h : Perm4 o w f v) : AlgD o ∧ AlgD (o + 1) := by
  unfold AlgD; rcases h.1 with e | e | e | e <;> rw [e] <;> decide
theorem aW {o w f v : Nat} (h : Perm4 o w f v) : AlgD w ∧ AlgD (w + 1) := by
  unfold AlgD; rcases h.2.1 with e | e | e | e <;> rw [e] <;> decide
theorem nD {b x : Nat} (h : ¬ AlgD b) (hx : AlgD x) : b ≠ x := fun e => h (e ▸ hx)
theorem nD22 {b : Nat} (h : ¬ AlgD b) : b ≠ 22 ∧ b ≠ 24 ∧ b ≠ 26 ∧ b ≠ 28 := ⟨nD h (aD (by decide)), nD h (aD (by decide)), nD h (aD (by decide)), nD h (aD (by decide))⟩
theorem nDE {b : Nat} (h : ¬ AlgD b) : ¬ EuD b := fun z => h (by unfold EuD at z; unfold AlgD; omega)
theorem nDE1 {p : Int} {sh : SH} {S : SS} {b N : Nat} (h : ¬ AlgD b) (hb : Row p sh S b N) (hr : IsRests p sh S 12) : ¬ AlgD (b + 1) := fun z => by
  unfold AlgD at z h
  have h1 := hb.1.1
  have : b = 12 := by omega
  rw [this, hr.1] at h1
  cases h1
set_option maxRecDepth 100000 in
set_option maxHeartbeats 4000000 in
theorem c_X0_commonDivisor {g : GC} {p : Int} {sh : SH} {S : SS} {n a N b M : Nat} {Q : Option Value → GA → Nat → Prop} (hW : AlgW p sh S) (ha : Row p sh S a N) (hb : Row p sh S b M) (hna : ¬ AlgD a) (hnb : ¬ AlgD b)
    (hroom : ∀ t : Nat, (∀ s : Nat, s ≤ t → 0 < plen (eu p (rv S b) (rv S a) s).2.1 64) → t ≤ 62 ∧ plen (pdiv p (eu p (rv S b) (rv S a) t).1 (eu p (rv S b) (rv S a) t).2.1 (plen (eu p (rv S b) (rv S a) t).1 64) (plen (eu p (rv S b) (rv S a) t).2.1 64)).1 64 + plen (eu p (rv S b) (rv S a) t).2.2.2 64 ≤ 65)
    (hq : ∀ (t : Nat) (S' : SS), AlgW p sh S' → Same AlgD S S' → (∀ s : Nat, s < t → 0 < plen (eu p (rv S b) (rv S a) s).2.1 64) → plen (eu p (rv S b) (rv S a) t).2.1 64 ≤ 0 → rv S' 18 = pscl p (eu p (rv S b) (rv S a) t).1 (eu p (rv S b) (rv S a) t).1 → Q (some (gr g 18)) (hp g sh S') n) :
    GCall g mX0_commonDivisor 6 0 0 [gr g 13, gr g a, gr g b] (hp g sh S) n Q := by
  obtain ⟨hA, o0, w0, f0, v0, hE⟩ := hW
  have hA' := hA
  obtain ⟨hP, hrs, h13, p0, p14, p16, p18, -, r14, r16, r18, -⟩ := hA'
  have hpb := hP.bd
  have h181 := r18.1.1
  have hrs1 := hrs.1
  refine GCall.of (by decide) (Nat.le_of_ble_eq_true rfl) (ls := [(0, _), (1, _), (2, _)]) rfl ?_
  have hfin : ∀ (t : Nat) (S' : SS) (o w f v : Nat), Alg p sh S' → Same EuD S S' → EuP p sh S' o w f v → EuV S' o w f v (eu p (rv S b) (rv S a) t) → (∀ s : Nat, s < t → 0 < plen (eu p (rv S b) (rv S a) s).2.1 64) → plen (eu p (rv S b) (rv S a) t).2.1 64 ≤ 0 → G g mX0_commonDivisor 6 0 0 7 [(0, gr g 13), (1, gr g a), (2, gr g b)] [] (hp g sh S') n 0 0 Q := by
    intro t S' o w f v hA1 hS1 hE1 hV1 hs ht
    have hE1' := hE1
    obtain ⟨e5, e6, e7, e8, hperm, ro, rw_, rf, rv_⟩ := hE1'
    obtain ⟨v1, v2, v3, v4⟩ := hV1
    have q18 := hA1.2.2.2.2.2.2.1
    have q0 := hA1.2.2.2.1
    have s18 := hA1.2.2.2.2.2.2.2.2.2.2.1
    have ho1 := ro.1.1
    have hLo := ro.2.2.1
    have hbo := plen_bd (rv S' o) 64
    have hx := ro.2.2.2.2 (S'.1 o 1 - 1)
    have A2 : Alg p sh (rput S' 18 pz 64) := Alg_18 hA1 Sup_pz (Red_pz (by omega))
    have O2 : Row p sh (rput S' 18 pz 64) o 64 := Row_ne ro (pO hperm (by decide))
    have eL : (rput S' 18 pz 64).1 o 1 = S'.1 o 1 := rput_F (Or.inl (pO hperm (by decide)))
    have eo : rv (rput S' 18 pz 64) o = rv S' o := rput_ne (pO hperm (by decide))
    have hib := inv_bd (x := rv S' o (S'.1 o 1 - 1)) hP
    have hps := pscl_ok (O := rv S' o) (F := rv S' o) hP ro.2.2.2.1
    refine S_aload_n (pc := 7) dX0_commonDivisor_7 rfl ?_
    refine S_getR (pc := 8) dX0_commonDivisor_8 fX0_23 (by assumption) rfl (by assumption) ?_
    refine S_callV (pc := 11) (ci := 4) (d2 := 1) (mc2 := 0) (ms2 := 0) (As := []) dX0_commonDivisor_11 kX4_wipe lkX0_63 (by assumption) rfl rfl rfl (Nat.le_of_ble_eq_true rfl) ⟨by decide, by decide⟩ (by decide) ?_
    refine c_X4_wipe (by assumption) ?_
    show G _ _ _ _ _ _ _ _ _ _ _ _ _
    refine S_aload_n (pc := 14) dX0_commonDivisor_14 rfl ?_
    refine S_aload_n (pc := 15) dX0_commonDivisor_15 rfl ?_
    refine S_getR (pc := 16) dX0_commonDivisor_16 fX0_23 (by assumption) rfl (by assumption) ?_
    refine S_aload_n (pc := 19) dX0_commonDivisor_19 rfl ?_
    refine S_getR (pc := 20) dX0_commonDivisor_20 fX0_41 (by assumption) rfl (by assumption) ?_
    refine S_aload_n (pc := 23) dX0_commonDivisor_23 rfl ?_
    refine S_getR (pc := 24) dX0_commonDivisor_24 fX0_29 (by assumption) rfl (by assumption) ?_
    refine S_callV (pc := 27) (ci := 4) (d2 := 2) (mc2 := 0) (ms2 := 0) (As := []) dX0_commonDivisor_27 kX4_lead lkX0_79 (by assumption) rfl rfl rfl (Nat.le_of_ble_eq_true rfl) ⟨by decide, by decide⟩ (by decide) ?_
    refine c_X4_lead O2 ?_
    rw [eL, eo]
    show G _ _ _ _ _ _ _ _ _ _ _ _ _
    refine S_callV (pc := 30) (ci := 3) (d2 := 3) (mc2 := 0) (ms2 := 0) (As := [_]) dX0_commonDivisor_30 kX3_inverse lkX0_82 (by assumption) rfl rfl rfl (Nat.le_of_ble_eq_true rfl) ⟨by decide, by decide⟩ (by decide) ?_
    refine c_X3_inverse A2.2.1 hP hx ?_
    show G _ _ _ _ _ _ _ _ _ _ _ _ _
    refine S_aload_n (pc := 33) dX0_commonDivisor_33 rfl ?_
    refine S_getR (pc := 34) dX0_commonDivisor_34 fX0_29 (by assumption) rfl (by assumption) ?_
    refine G_iconst (pc := 37) dX0_commonDivisor_37 ?_
    refine S_callV (pc := 38) (ci := 0) (d2 := 2) (mc2 := 0) (ms2 := 0) (As := [_, _, _, _]) dX0_commonDivisor_38 kX0_addMultiple lkX0_87 (by assumption) rfl rfl rfl (Nat.le_of_ble_eq_true rfl) ⟨by decide, by decide⟩ (by decide) ?_
    refine c_X0_addMultiple hP A2.2.1 h13 q0 A2.2.2.2.2.2.2.2.2.2.2.1 O2 (pO hperm (by decide)) (by omega) (by omega) (by rw [eL]; omega) ?_
    rw [rput_rv, rput_rput, eo, show padd p pz (inv p (rv S' o (S'.1 o 1 - 1))) (rv S' o) 0 = pscl p (rv S' o) (rv S' o) by rw [hLo]; rfl]
    show G _ _ _ _ _ _ _ _ _ _ _ _ _
    refine S_aload_n (pc := 41) dX0_commonDivisor_41 rfl ?_
    refine S_getR (pc := 42) dX0_commonDivisor_42 fX0_23 (by assumption) rfl (by assumption) ?_
    refine G_aret (pc := 45) dX0_commonDivisor_45 rfl (by decide) ?_
    refine hq t _ ⟨Alg_18 hA1 hps.1 hps.2, o, w, f, v, EuP_ne hE1 (pAll hperm (by decide))⟩ (Same_put (Same_mono hS1 (fun _ => EuD_Alg)) (aD (by decide)) (aD (by decide))) hs ht ?_
    rw [rput_rv, v1]
  refine S_aload_n (pc := 0) dX0_commonDivisor_0 rfl ?_
  refine S_aload_n (pc := 1) dX0_commonDivisor_1 rfl ?_
  refine S_aload_n (pc := 2) dX0_commonDivisor_2 rfl ?_
  refine G_iconst (pc := 3) dX0_commonDivisor_3 ?_
  refine S_callV (pc := 4) (ci := 0) (d2 := 5) (mc2 := 0) (ms2 := 0) (As := [_, _, _]) dX0_commonDivisor_4 kX0_euclid lkX0_102 (by assumption) rfl rfl rfl (Nat.le_of_ble_eq_true rfl) ⟨by decide, by decide⟩ (by decide) ?_
  refine c_X0_euclid hA hE hb ha (fun z => hnb (EuD_Alg z)) (fun z => hna (EuD_Alg z)) (by omega) hroom (fun t S' o w f v h1 h2 h3 h4 h5 h6 => ?_)
  exact hfin t S' o w f v h1 h2 h3 h4 h5 h6
