/-! Algebra: euclid -/
theorem setP_at {S : SS} {a : Nat} {k : Int} {b : Option Nat} : (setP S a k b).2.2 a k = b := if_pos ⟨rfl, rfl⟩
theorem setP_ne {S : SS} {a c : Nat} {k j : Int} {b : Option Nat} (h : c ≠ a ∨ j ≠ k) : (setP S a k b).2.2 c j = S.2.2 c j := if_neg (fun z => h.elim (fun q => q z.1) (fun q => q z.2))
theorem Row_setP {p : Int} {sh : SH} {S : SS} {a c N : Nat} {k : Int} {b : Option Nat} (h : Row p sh S a N) (ha : a ≠ c) : Row p sh (setP S c k b) a N :=
  ⟨⟨h.1.1, h.1.2.1, by rw [setP_ne (Or.inl ha)]; exact h.1.2.2⟩, h.2⟩
theorem Alg_setP {p : Int} {sh : SH} {S : SS} {k : Int} {b : Option Nat} (h : Alg p sh S) (hk : 5 ≤ k) : Alg p sh (setP S 13 k b) := by
  obtain ⟨a1, a2, a3, a4, a5, a6, a7, a8, a9, a10, a11, a12⟩ := h
  refine ⟨a1, a2, a3, ?_, ?_, ?_, ?_, ?_, Row_setP a9 (by decide), Row_setP a10 (by decide), Row_setP a11 (by decide), Row_setP a12 (by decide)⟩
  · rw [setP_ne (Or.inr (by omega))]; exact a4
  · rw [setP_ne (Or.inr (by omega))]; exact a5
  · rw [setP_ne (Or.inr (by omega))]; exact a6
  · rw [setP_ne (Or.inr (by omega))]; exact a7
  · rw [setP_ne (Or.inr (by omega))]; exact a8
/-- the same but at the addresses of D -/
def Same (D : Nat → Prop) (S S' : SS) : Prop := (∀ (a k : Nat), ¬ D a → S'.1 a k = S.1 a k) ∧ (∀ a : Nat, ¬ D a → S'.2.1 a = S.2.1 a) ∧ ∀ (a : Nat) (k : Int), ¬ D a → S'.2.2 a k = S.2.2 a k
theorem Same_rf {D : Nat → Prop} {S : SS} : Same D S S := ⟨fun _ _ _ => rfl, fun _ _ => rfl, fun _ _ _ => rfl⟩
theorem Same_tr {D : Nat → Prop} {S S' S'' : SS} (h : Same D S S') (h' : Same D S' S'') : Same D S S'' :=
  ⟨fun a k ha => (h'.1 a k ha).trans (h.1 a k ha), fun a ha => (h'.2.1 a ha).trans (h.2.1 a ha), fun a k ha => (h'.2.2 a k ha).trans (h.2.2 a k ha)⟩
theorem Same_mono {D D' : Nat → Prop} {S S' : SS} (h : Same D S S') (hd : ∀ a, D a → D' a) : Same D' S S' :=
  ⟨fun a k ha => h.1 a k (fun z => ha (hd a z)), fun a ha => h.2.1 a (fun z => ha (hd a z)), fun a k ha => h.2.2 a k (fun z => ha (hd a z))⟩
theorem Same_put {D : Nat → Prop} {S S' : SS} {a N : Nat} {xs : Int → Int} (h : Same D S S') (h1 : D a) (h2 : D (a + 1)) : Same D S (rput S' a xs N) := by
  refine Same_tr h ⟨fun b k hb => rput_F (Or.inl (fun z => hb (z ▸ h1))), fun b hb => funext fun i => ?_, fun _ _ _ => rfl⟩
  rw [rput_A (a := a) (fun z => hb (by rw [z]; exact h2))]
theorem Same_setP {D : Nat → Prop} {S S' : SS} {a : Nat} {k : Int} {b : Option Nat} (h : Same D S S') (h1 : D a) : Same D S (setP S' a k b) :=
  Same_tr h ⟨fun _ _ _ => rfl, fun _ _ => rfl, fun c j hc => setP_ne (Or.inl (fun z => hc (z ▸ h1)))⟩
theorem Same_row {D : Nat → Prop} {p : Int} {sh : SH} {S S' : SS} {a N : Nat} (h : Same D S S') (h1 : ¬ D a) (h2 : ¬ D (a + 1)) (hr : Row p sh S a N) : Row p sh S' a N := by
  obtain ⟨⟨q1, q2, q3⟩, q4, q5, q6, q7⟩ := hr
  have e : rv S' a = rv S a := h.2.1 _ h2
  exact ⟨⟨q1, q2, by rw [h.2.2 a 0 h1]; exact q3⟩, q4, by rw [h.1 a 1 h1, e]; exact q5, by rw [e]; exact q6, by rw [e]; exact q7⟩
theorem Same_rv {D : Nat → Prop} {S S' : SS} {a : Nat} (h : Same D S S') (h2 : ¬ D (a + 1)) : rv S' a = rv S a := h.2.1 _ h2
abbrev QD : Type := (Int → Int) × (Int → Int) × (Int → Int) × (Int → Int)
def one : Int → Int := iup pz 0 1
theorem one_sup {N : Nat} (h : 0 < N) : Sup one N := Sup_iup Sup_pz (by omega)
theorem one_red {p : Int} (hP : IsP p) : Red p one := Red_iup (Red_pz (by have := hP.bd; omega)) (by have := hP.bd; omega)
noncomputable def eust (p : Int) (x : QD) : QD := (x.2.1, (pdiv p x.1 x.2.1 (plen x.1 64) (plen x.2.1 64)).2, x.2.2.2, padd p x.2.2.1 (-1) (pmul p (pdiv p x.1 x.2.1 (plen x.1 64) (plen x.2.1 64)).1 x.2.2.2) 0)
/-- older, newer and their factors behind t steps of Euclid's way -/
noncomputable def eu (p : Int) (a b : Int → Int) : Nat → QD
  | 0 => (a, b, pz, one)
  | t + 1 => eust p (eu p a b t)
def EuD (a : Nat) : Prop := (13 ≤ a ∧ a ≤ 17) ∨ (22 ≤ a ∧ a ≤ 29)
def Perm4 (o w f v : Nat) : Prop := (o = 22 ∨ o = 24 ∨ o = 26 ∨ o = 28) ∧ (w = 22 ∨ w = 24 ∨ w = 26 ∨ w = 28) ∧ (f = 22 ∨ f = 24 ∨ f = 26 ∨ f = 28) ∧ (v = 22 ∨ v = 24 ∨ v = 26 ∨ v = 28) ∧ o ≠ w ∧ o ≠ f ∧ o ≠ v ∧ w ≠ f ∧ w ≠ v ∧ f ≠ v
def EuP (p : Int) (sh : SH) (S : SS) (o w f v : Nat) : Prop := S.2.2 13 5 = some o ∧ S.2.2 13 6 = some w ∧ S.2.2 13 7 = some f ∧ S.2.2 13 8 = some v ∧ Perm4 o w f v ∧ Row p sh S o 64 ∧ Row p sh S w 64 ∧ Row p sh S f 64 ∧ Row p sh S v 64
def EuV (S : SS) (o w f v : Nat) (x : QD) : Prop := rv S o = x.1 ∧ rv S w = x.2.1 ∧ rv S f = x.2.2.1 ∧ rv S v = x.2.2.2
theorem EuP_ne {p : Int} {sh : SH} {S : SS} {o w f v a N : Nat} {xs : Int → Int} (h : EuP p sh S o w f v) (ha : a ≠ o ∧ a ≠ w ∧ a ≠ f ∧ a ≠ v) : EuP p sh (rput S a xs N) o w f v := by
  obtain ⟨h1, h2, h3, h4, h5, h6, h7, h8, h9⟩ := h
  exact ⟨h1, h2, h3, h4, h5, Row_ne h6 (Ne.symm ha.1), Row_ne h7 (Ne.symm ha.2.1), Row_ne h8 (Ne.symm ha.2.2.1), Row_ne h9 (Ne.symm ha.2.2.2)⟩
set_option maxRecDepth 100000 in
set_option maxHeartbeats 4000000 in
theorem l_X0_euclid {g : GC} {p : Int} {sh : SH} {S0 : SS} {n : Nat} {bd : Int} {A B : Int → Int} {Q : Option Value → GA → Nat → Prop} (hbd : 0 ≤ bd ∧ bd ≤ 100)
    (hroom : ∀ t : Nat, (∀ s : Nat, s ≤ t → bd < plen (eu p A B s).2.1 64) → t ≤ 62 ∧ plen (pdiv p (eu p A B t).1 (eu p A B t).2.1 (plen (eu p A B t).1 64) (plen (eu p A B t).2.1 64)).1 64 + plen (eu p A B t).2.2.2 64 ≤ 65)
    (hq : ∀ (t : Nat) (S' : SS) (o w f v : Nat), Alg p sh S' → Same EuD S0 S' → EuP p sh S' o w f v → EuV S' o w f v (eu p A B t) → (∀ s : Nat, s < t → bd < plen (eu p A B s).2.1 64) → plen (eu p A B t).2.1 64 ≤ bd → Q none (hp g sh S') n) :
    ∀ (k t : Nat) (S : SS) (o w f v : Nat), t + k = 64 → Alg p sh S → Same EuD S0 S → EuP p sh S o w f v → EuV S o w f v (eu p A B t) → (∀ s : Nat, s < t → bd < plen (eu p A B s).2.1 64) →
    G g mX0_euclid 5 0 0 42 [(4, .int (iI t)), (0, gr g 13), (3, .int (iI bd))] [] (hp g sh S) n 0 0 Q := by
  intro k
  induction k with
  | zero =>
    intro t S o w f v ht hA hS hE hV hs
    have := (hroom 63 (fun s hs' => hs s (by omega))).1
    omega
  | succ k ih =>
    intro t S o w f v ht hA hS hE hV hs
    have hA' := hA
    obtain ⟨hP, hrs, h13, p0, p14, p16, p18, -, r14, r16, r18, -⟩ := hA'
    have hE' := hE
    obtain ⟨e5, e6, e7, e8, hperm, ro, rw_, rf, rv_⟩ := hE'
    obtain ⟨m1, m2, m3, m4, d1, d2, d3, d4, d5, d6⟩ := hperm
    obtain ⟨v1, v2, v3, v4⟩ := hV
    have hpb := hP.bd
    have ho1 := ro.1.1
    have hw0 := rw_.1
    have hw1 := rw_.1.1
    have hLo := ro.2.2.1
    have hLw := rw_.2.2.1
    have hLv := rv_.2.2.1
    rw [v2] at hLw
    rw [v1] at hLo
    rw [v4] at hLv
    have hbw := plen_bd (eu p A B t).2.1 64
    by_cases hc : plen (eu p A B t).2.1 64 ≤ bd
    · skip
      refine G_iload (pc := 42) dX0_euclid_42 rfl ?_
      refine G_bipush (pc := 44) dX0_euclid_44 rfl ?_
      refine G_icmp_ge_f (pc := 46) 140 dX0_euclid_46 rfl (by omega) (by omega) ?_
      refine S_aload_n (pc := 49) dX0_euclid_49 rfl ?_
      refine S_getR (pc := 50) dX0_euclid_50 fX0_32 (by assumption) rfl (by assumption) ?_
      refine S_callV (pc := 53) (ci := 4) (d2 := 1) (mc2 := 0) (ms2 := 0) (As := []) dX0_euclid_53 kX4_length lkX0_45 (by assumption) rfl rfl rfl (Nat.le_of_ble_eq_true rfl) ⟨by decide, by decide⟩ (by decide) ?_
      refine c_X4_length (by assumption) ?_
      show G _ _ _ _ _ _ _ _ _ _ _ _ _
      refine G_iload_n (pc := 56) dX0_euclid_56 rfl ?_
      refine G_icmp_le_t (pc := 57) 140 dX0_euclid_57 rfl (by omega) (by omega) ?_
      refine G_vret (pc := 140) dX0_euclid_140 rfl (by decide) ?_
      exact hq t S o w f v hA hS hE ⟨v1, v2, v3, v4⟩ hs hc
    · have hrm := hroom t (fun s hs' => by
        by_cases hst : s = t
        · rw [hst]; omega
        · exact hs s (by omega))
      have hDv : ∀ q r : Int → Int, DivS p (rv S o) (rv S w) q r (S.1 o 1) (S.1 w 1) → q = (pdiv p (eu p A B t).1 (eu p A B t).2.1 (plen (eu p A B t).1 64) (plen (eu p A B t).2.1 64)).1 ∧ r = (pdiv p (eu p A B t).1 (eu p A B t).2.1 (plen (eu p A B t).1 64) (plen (eu p A B t).2.1 64)).2 := fun q r hD => by
        have hr1 := rw_.2.2.2.2
        have hs1 := rw_.2.2.2.1
        have hr0 := ro.2.2.2.2
        have hs0 := ro.2.2.2.1
        rw [v2] at hr1 hs1
        rw [v1] at hr0 hs0
        rw [v1, v2, hLo, hLw] at hD
        have hz1 : ∀ j : Int, (j < 0 ∨ plen (eu p A B t).2.1 64 ≤ j) → (eu p A B t).2.1 j = 0 := fun j hj => hj.elim (fun h => hs1 j (Or.inl h)) (fun h => Sup_len hs1 h)
        have hz0 : ∀ j : Int, (j < 0 ∨ plen (eu p A B t).1 64 ≤ j) → (eu p A B t).1 j = 0 := fun j hj => hj.elim (fun h => hs0 j (Or.inl h)) (fun h => Sup_len hs0 h)
        exact DivS_uniq hP (by omega) hr1 hz1 (plen_lead (by omega)) hD (pdiv_S hP (by omega) hr0 hz0 hr1 hz1 (plen_lead (by omega)))
      have hfin : ∀ q r : Int → Int, DivS p (rv S o) (rv S w) q r (S.1 o 1) (S.1 w 1) → G g mX0_euclid 5 0 0 72 [(4, .int (iI t)), (0, gr g 13), (3, .int (iI bd))] [gr g 16] (hp g sh (rput (rput S o r 64) 16 q 64)) n 0 0 Q := fun q r hD => by
        obtain ⟨eq, er⟩ := hDv q r hD
        have hbo := plen_bd (rv S o) 64
        have hlo := ro.2.2.1
        have hlw := rw_.2.2.1
        have hbw2 := plen_bd (rv S w) 64
        have hqs : Sup q 64 := fun j hj => hD.2.2.2.2 j (by omega)
        have hrs' : Sup r 64 := fun j hj => hD.2.2.2.1 j (by omega)
        have hA1 : Alg p sh (rput (rput S o r 64) 16 q 64) := Alg_16 (Alg_ne hA (by omega) (by omega) (by omega) (by omega)) hqs hD.1
        have hv1 : Row p sh (rput (rput S o r 64) 16 q 64) v 64 := Row_ne (Row_ne rv_ (by omega)) (by omega)
        have eq16 : (rput (rput S o r 64) 16 q 64).1 16 1 = plen q 64 := rput_L
        have eqv : (rput (rput S o r 64) 16 q 64).1 v 1 = S.1 v 1 := by rw [rput_F (Or.inl (by omega)), rput_F (Or.inl (by omega))]
        have ev16 : rv (rput (rput S o r 64) 16 q 64) 16 = q := rput_rv
        have evv : rv (rput (rput S o r 64) 16 q 64) v = (eu p A B t).2.2.2 := by rw [rput_ne (by omega), rput_ne (by omega), v4]
        have hps : Sup (pmul p q (eu p A B t).2.2.2) 64 := pmul_sup (la := plen q 64) (lb := plen (eu p A B t).2.2.2 64) (fun j hj => Sup_len hqs hj) (fun j hj => Sup_len (v4 ▸ rv_.2.2.2.1) hj) (by rw [eq]; omega)
        have hA2 : Alg p sh (rput (rput (rput S o r 64) 16 q 64) 14 (pmul p q (eu p A B t).2.2.2) 64) := Alg_14 hA1 hps (pmul_red (by omega))
        have hf2 : Row p sh (rput (rput (rput S o r 64) 16 q 64) 14 (pmul p q (eu p A B t).2.2.2) 64) f 64 := Row_ne (Row_ne (Row_ne rf (by omega)) (by omega)) (by omega)
        have evf : rv (rput (rput (rput S o r 64) 16 q 64) 14 (pmul p q (eu p A B t).2.2.2) 64) f = (eu p A B t).2.2.1 := by rw [rput_ne (by omega), rput_ne (by omega), rput_ne (by omega), v3]
        have eq14 : (rput (rput (rput S o r 64) 16 q 64) 14 (pmul p q (eu p A B t).2.2.2) 64).1 14 1 = plen (pmul p q (eu p A B t).2.2.2) 64 := rput_L
        have hb14 := plen_bd (pmul p q (eu p A B t).2.2.2) 64
        have hFs : Sup (padd p (eu p A B t).2.2.1 (-1) (pmul p q (eu p A B t).2.2.2) 0) 64 := padd_sup (la := 64) (v3 ▸ rf.2.2.2.2) (v3 ▸ rf.2.2.2.1) (Int.le_refl _) hps (by omega)
        refine S_astore (pc := 72) (ls' := [(5, _), (4, _), (0, _), (3, _)]) dX0_euclid_72 (by decide) rfl ?_
        refine S_aload_n (pc := 74) dX0_euclid_74 rfl ?_
        refine S_aload_n (pc := 75) dX0_euclid_75 rfl ?_
        refine S_getR (pc := 76) dX0_euclid_76 fX0_35 (by assumption) rfl (by assumption) ?_
        refine G_iconst (pc := 79) dX0_euclid_79 ?_
        refine S_aload_n (pc := 80) dX0_euclid_80 rfl ?_
        refine S_aload (pc := 81) dX0_euclid_81 rfl ?_
        refine S_aload_n (pc := 83) dX0_euclid_83 rfl ?_
        refine S_getR (pc := 84) dX0_euclid_84 fX0_38 (by assumption) rfl (by assumption) ?_
        refine S_callV (pc := 87) (ci := 0) (d2 := 3) (mc2 := 0) (ms2 := 0) (As := [_, _]) dX0_euclid_87 kX0_multiplied lkX0_99 (by assumption) rfl rfl rfl (Nat.le_of_ble_eq_true rfl) ⟨by decide, by decide⟩ (by decide) ?_
        refine c_X0_multiplied hA1 hA1.2.2.2.2.2.2.2.2.2.1 hv1 (by omega) (by omega) (by rw [eq16, eqv, hLv, eq]; omega) ?_
        rw [ev16, evv]
        show G _ _ _ _ _ _ _ _ _ _ _ _ _
        refine G_iconst (pc := 90) dX0_euclid_90 ?_
        refine S_callV (pc := 91) (ci := 0) (d2 := 2) (mc2 := 0) (ms2 := 0) (As := [_, _, _, _]) dX0_euclid_91 kX0_addMultiple lkX0_87 (by assumption) rfl rfl rfl (Nat.le_of_ble_eq_true rfl) ⟨by decide, by decide⟩ (by decide) ?_
        refine c_X0_addMultiple hP hA2.2.1 h13 p0 hf2 hA2.2.2.2.2.2.2.2.2.1 (by omega) (by omega) (by omega) (by rw [eq14]; omega) ?_
        rw [evf, rput_rv]
        show G _ _ _ _ _ _ _ _ _ _ _ _ _
        refine S_aload_n (pc := 94) dX0_euclid_94 rfl ?_
        refine S_getR (pc := 95) dX0_euclid_95 fX0_29 (by assumption) rfl (by assumption) ?_
        refine S_astore (pc := 98) (ls' := [(6, _), (5, _), (4, _), (0, _), (3, _)]) dX0_euclid_98 (by decide) rfl ?_
        refine S_aload_n (pc := 100) dX0_euclid_100 rfl ?_
        refine S_aload_n (pc := 101) dX0_euclid_101 rfl ?_
        refine S_getR (pc := 102) dX0_euclid_102 fX0_32 (by assumption) rfl (by assumption) ?_
        refine S_putR (pc := 105) dX0_euclid_105 fX0_29 (by assumption) rfl ⟨rfl, rfl⟩ ?_
        refine S_aload_n (pc := 108) dX0_euclid_108 rfl ?_
        refine S_aload (pc := 109) dX0_euclid_109 rfl ?_
        refine S_putR (pc := 111) dX0_euclid_111 fX0_32 (by assumption) rfl ⟨rfl, rfl⟩ ?_
        refine S_aload_n (pc := 114) dX0_euclid_114 rfl ?_
        refine S_getR (pc := 115) dX0_euclid_115 fX0_35 (by assumption) rfl (by rw [setP_ne (Or.inr (by decide)), setP_ne (Or.inr (by decide))]; exact e7) ?_
        refine S_astore (pc := 118) (ls' := [(6, _), (5, _), (4, _), (0, _), (3, _)]) dX0_euclid_118 (by decide) rfl ?_
        refine S_aload_n (pc := 120) dX0_euclid_120 rfl ?_
        refine S_aload_n (pc := 121) dX0_euclid_121 rfl ?_
        refine S_getR (pc := 122) dX0_euclid_122 fX0_38 (by assumption) rfl (by rw [setP_ne (Or.inr (by decide)), setP_ne (Or.inr (by decide))]; exact e8) ?_
        refine S_putR (pc := 125) dX0_euclid_125 fX0_35 (by assumption) rfl ⟨rfl, rfl⟩ ?_
        refine S_aload_n (pc := 128) dX0_euclid_128 rfl ?_
        refine S_aload (pc := 129) dX0_euclid_129 rfl ?_
        refine S_putR (pc := 131) dX0_euclid_131 fX0_38 (by assumption) rfl ⟨rfl, rfl⟩ ?_
        refine G_iinc (pc := 134) (ls' := [(4, _), (6, _), (5, _), (0, _), (3, _)]) dX0_euclid_134 rfl (by decide) rfl ?_
        refine G_goto (pc := 137) 42 dX0_euclid_137 rfl ?_
        refine G_ls (ls' := [(4, _), (0, _), (3, _)]) (lsub_c rfl (lsub_c rfl (lsub_c rfl lsub_n))) ?_
        refine ih (t + 1) _ w o v f (by omega) ?_ ?_ ?_ ?_ (fun s hs' => ?_)
        · exact Alg_setP (Alg_setP (Alg_setP (Alg_setP (Alg_ne hA2 (by omega) (by omega) (by omega) (by omega)) (by decide)) (by decide)) (by decide)) (by decide)
        · exact Same_setP (Same_setP (Same_setP (Same_setP (Same_put (Same_put (Same_put (Same_put hS (by unfold EuD; omega) (by unfold EuD; omega)) (by unfold EuD; omega) (by unfold EuD; omega)) (by unfold EuD; omega) (by unfold EuD; omega)) (by unfold EuD; omega) (by unfold EuD; omega)) (by unfold EuD; omega)) (by unfold EuD; omega)) (by unfold EuD; omega)) (by unfold EuD; omega)
        · refine ⟨?_, ?_, ?_, setP_at, ⟨m2, m1, m4, m3, Ne.symm d1, d5, d4, d3, d2, Ne.symm d6⟩, ?_, ?_, ?_, ?_⟩
          · rw [setP_ne (Or.inr (by decide)), setP_ne (Or.inr (by decide)), setP_ne (Or.inr (by decide))]; exact setP_at
          · rw [setP_ne (Or.inr (by decide)), setP_ne (Or.inr (by decide))]; exact setP_at
          · rw [setP_ne (Or.inr (by decide))]; exact setP_at
          · exact Row_setP (Row_setP (Row_setP (Row_setP (Row_ne (Row_ne (Row_ne (Row_ne rw_ (by omega)) (by omega)) (by omega)) (by omega)) (by omega)) (by omega)) (by omega)) (by omega)
          · exact Row_setP (Row_setP (Row_setP (Row_setP (Row_ne (Row_ne (Row_ne (Row_put ro hrs' hD.2.1) (by omega)) (by omega)) (by omega)) (by omega)) (by omega)) (by omega)) (by omega)
          · exact Row_setP (Row_setP (Row_setP (Row_setP (Row_ne (Row_ne (Row_ne (Row_ne rv_ (by omega)) (by omega)) (by omega)) (by omega)) (by omega)) (by omega)) (by omega)) (by omega)
          · exact Row_setP (Row_setP (Row_setP (Row_setP (Row_put hf2 hFs (padd_red (by omega))) (by omega)) (by omega)) (by omega)) (by omega)
        · refine ⟨?_, ?_, ?_, ?_⟩
          · show rv (rput _ f _ 64) w = _
            rw [rput_ne (by omega), rput_ne (by omega), rput_ne (by omega), rput_ne (by omega), v2]; rfl
          · show rv (rput _ f _ 64) o = _
            rw [rput_ne (by omega), rput_ne (by omega), rput_ne (by omega), rput_rv, er]; rfl
          · show rv (rput _ f _ 64) v = _
            rw [rput_ne (by omega), rput_ne (by omega), rput_ne (by omega), rput_ne (by omega), v4]; rfl
          · show rv (rput _ f _ 64) f = _
            rw [rput_rv, eq]; rfl
        · by_cases hst : s = t
          · rw [hst]; omega
          · exact hs s (by omega)
      refine G_iload (pc := 42) dX0_euclid_42 rfl ?_
      refine G_bipush (pc := 44) dX0_euclid_44 rfl ?_
      refine G_icmp_ge_f (pc := 46) 140 dX0_euclid_46 rfl (by omega) (by omega) ?_
      refine S_aload_n (pc := 49) dX0_euclid_49 rfl ?_
      refine S_getR (pc := 50) dX0_euclid_50 fX0_32 (by assumption) rfl (by assumption) ?_
      refine S_callV (pc := 53) (ci := 4) (d2 := 1) (mc2 := 0) (ms2 := 0) (As := []) dX0_euclid_53 kX4_length lkX0_45 (by assumption) rfl rfl rfl (Nat.le_of_ble_eq_true rfl) ⟨by decide, by decide⟩ (by decide) ?_
      refine c_X4_length (by assumption) ?_
      show G _ _ _ _ _ _ _ _ _ _ _ _ _
      refine G_iload_n (pc := 56) dX0_euclid_56 rfl ?_
      refine G_icmp_le_f (pc := 57) 140 dX0_euclid_57 rfl (by omega) (by omega) ?_
      refine S_aload_n (pc := 60) dX0_euclid_60 rfl ?_
      refine S_aload_n (pc := 61) dX0_euclid_61 rfl ?_
      refine S_getR (pc := 62) dX0_euclid_62 fX0_29 (by assumption) rfl (by assumption) ?_
      refine S_aload_n (pc := 65) dX0_euclid_65 rfl ?_
      refine S_getR (pc := 66) dX0_euclid_66 fX0_32 (by assumption) rfl (by assumption) ?_
      refine S_callV (pc := 69) (ci := 0) (d2 := 4) (mc2 := 0) (ms2 := 0) (As := [_, _]) dX0_euclid_69 kX0_reduce lkX0_95 (by assumption) rfl rfl rfl (Nat.le_of_ble_eq_true rfl) ⟨by decide, by decide⟩ (by decide) ?_
      refine c_X0_reduce hA ro rw_ (by omega) (by omega) (by omega) (by omega) (fun q r hD => ?_)
      exact hfin q r hD
