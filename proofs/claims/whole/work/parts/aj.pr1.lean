/-! a call of the class and the same call of the Model answer alike: put, at, clear, sum, divide, gcd, cofactor, compose, move -/
def Pair (g : GC) (p : Int) (mk : Int → Value) (yC yM : GM) (dC mc ms dM : Nat) (as : List Value) (sh : SH) (S : SS) (n : Nat) : Prop :=
  ∀ Q : Option Value → GA → Nat → Prop, (∀ (r : Int) (sh' : SH) (S' : SS) (n' : Nat), sh' 96 = some (.inl 10) → (∀ Q2 : Option Value → GA → Nat → Prop, (∀ S2 : SS, INV p n' sh' S2 → Q2 (some (mk r)) (hp g sh' S2) n') → GCall g yM dM 0 0 (gr g 96 :: as) (hp g sh' S') n' Q2) → Q (some (mk r)) (hp g sh' S') n') → GCall g yC dC mc ms (gr g 0 :: as) (hp g sh S) n Q
abbrev vI (r : Int) : Value := .int (iI r)
abbrev vL (r : Int) : Value := .long (iL r)
theorem SR_iup {p i v : Int} {xs : Int → Int} (h : SR p 32 xs) (hi : 0 ≤ i ∧ i < 32) (hv : 0 ≤ v ∧ v < p) : SR p 32 (iup xs i v) := ⟨Sup_iup h.1 (by omega), Red_iup h.2 hv⟩
theorem SR_80 {p : Int} {xs : Int → Int} (h : SR p 32 xs) : plen xs 80 = plen xs 32 := plen_more h.1 (by decide)
theorem SR_64 {p : Int} {xs : Int → Int} (h : SR p 32 xs) : plen xs 64 = plen xs 32 := plen_more h.1 (by decide)
section INVS
variable {g : GC} {p : Int} {n : Nat} {sh : SH} {S S' : SS} {F : ZF} {P : ZP} {V : ZV} {T : ZT} {H : ZH} {c : Int}
set_option maxHeartbeats 4000000 in
theorem pr_put {a i v : Int} (hI : INV2 p n sh S (F, P, V, T, H, c) (F, P, V, T, H, c)) (ra : IsI a) (ri : IsI i) (rv : IsI v) : Pair g p vI mX9_put mX10_put 3 0 0 3 [.int (iI a), .int (iI i), .int (iI v)] sh S n := by
  intro Q hk
  have hpb := (I_P hI).bd
  refine c_X9_put (I_W hI) ⟨ra, ri, rv⟩ (fun h0 => ?_) (fun ha hi S' hE => ?_)
  · refine hk (-2) sh S n (I_s96 hI) (fun Q2 h2 => ?_)
    exact c_X10_put (I_M hI) ⟨ra, ri, rv⟩ (fun _ => h2 S (I_ok hI)) (fun h1 => absurd h1 h0)
  · rw [I_pr hI ha] at hE ⊢
    have h1 := I_E hI hE
    refine hk (F a i) sh S' n (I_s96 hI) (fun Q2 h2 => ?_)
    refine c_X10_put (I_M h1) ⟨ra, ri, rv⟩ (fun h0 => absurd ⟨ha, hi⟩ h0) (fun _ => ?_)
    rw [I_mg h1 ha]
    have hX := SR_iup (I_SR hI ha) hi (em_bd (z := v) (by omega : 0 < p))
    exact h2 _ (I_ok (I_set h1 ha hX.1 hX.2))
set_option maxHeartbeats 4000000 in
theorem pr_at {a i : Int} (hI : INV2 p n sh S (F, P, V, T, H, c) (F, P, V, T, H, c)) (ra : IsI a) (ri : IsI i) : Pair g p vI mX9_at mX10_at 3 0 0 3 [.int (iI a), .int (iI i)] sh S n := by
  intro Q hk
  refine c_X9_at (I_W hI) ⟨ra, ri⟩ (fun h0 => ?_) (fun ha hi => ?_) (fun ha hi => ?_)
  · refine hk (-2) sh S n (I_s96 hI) (fun Q2 h2 => ?_)
    exact c_X10_at (I_M hI) ⟨ra, ri⟩ (fun _ => h2 S (I_ok hI)) (fun h1 _ => absurd (show (0 ≤ a ∧ a < 8) ∧ (-1 ≤ i ∧ i < 32) by omega) h0) (fun h1 _ => absurd (show (0 ≤ a ∧ a < 8) ∧ (-1 ≤ i ∧ i < 32) by omega) h0)
  · rw [I_pr hI ha]
    refine hk (plen (F a) 32) sh S n (I_s96 hI) (fun Q2 h2 => ?_)
    refine c_X10_at (I_M hI) ⟨ra, ri⟩ (fun h0 => absurd (show (0 ≤ a ∧ a < 8) ∧ (-1 ≤ i ∧ i < 32) by omega) h0) (fun _ _ => ?_) (fun _ h1 => by exfalso; omega)
    rw [I_mg hI ha, I_len hI ha]
    exact h2 S (I_ok hI)
  · rw [I_pr hI ha]
    refine hk (F a i) sh S n (I_s96 hI) (fun Q2 h2 => ?_)
    refine c_X10_at (I_M hI) ⟨ra, ri⟩ (fun h0 => absurd (show (0 ≤ a ∧ a < 8) ∧ (-1 ≤ i ∧ i < 32) by omega) h0) (fun _ h1 => by exfalso; omega) (fun _ _ => ?_)
    rw [I_mg hI ha]
    exact h2 S (I_ok hI)
set_option maxHeartbeats 4000000 in
theorem pr_clear {a : Int} (hI : INV2 p n sh S (F, P, V, T, H, c) (F, P, V, T, H, c)) (ra : IsI a) : Pair g p vI mX9_clear mX10_clear 3 0 0 3 [.int (iI a)] sh S n := by
  intro Q hk
  have hpb := (I_P hI).bd
  refine c_X9_clear (I_W hI) ra (fun h0 => ?_) (fun ha S' hE => ?_)
  · refine hk (-2) sh S n (I_s96 hI) (fun Q2 h2 => ?_)
    exact c_X10_clear (I_M hI) ra (fun _ => h2 S (I_ok hI)) (fun h1 => absurd h1 h0)
  · rw [I_pr hI ha]
    have h1 := I_E hI hE
    refine hk (plen (F a) 32) sh S' n (I_s96 hI) (fun Q2 h2 => ?_)
    refine c_X10_clear (I_M h1) ra (fun h0 => absurd ha h0) (fun _ => ?_)
    rw [I_mg h1 ha, I_len hI ha]
    exact h2 _ (I_ok (I_set h1 ha Sup_pz (Red_pz (by omega))))
set_option maxHeartbeats 4000000 in
theorem pr_sum {t a v b : Int} (hI : INV2 p n sh S (F, P, V, T, H, c) (F, P, V, T, H, c)) (rt : IsI t) (ra : IsI a) (rv : IsI v) (rb : IsI b) : Pair g p vI mX9_sum mX10_sum 5 0 0 3 [.int (iI t), .int (iI a), .int (iI v), .int (iI b)] sh S n := by
  intro Q hk
  have hpb := (I_P hI).bd
  refine c_X9_sum (I_W hI) ⟨rt, ra, rv, rb⟩ (fun h0 => ?_) (fun ht ha hb S' hE => ?_)
  · refine hk (-2) sh S n (I_s96 hI) (fun Q2 h2 => ?_)
    exact c_X10_sum (I_M hI) ⟨rt, ra, rv, rb⟩ (fun _ => h2 S (I_ok hI)) (fun h1 h3 h4 => absurd ⟨h1, h3, h4⟩ h0)
  · rw [I_pr hI ha, I_pr hI hb] at hE ⊢
    have h1 := I_E hI hE
    refine hk _ sh S' n (I_s96 hI) (fun Q2 h2 => ?_)
    refine c_X10_sum (I_M h1) ⟨rt, ra, rv, rb⟩ (fun h0 => absurd ⟨ht, ha, hb⟩ h0) (fun _ _ _ => ?_)
    rw [I_mg h1 ha, I_mg h1 hb]
    have hX : Sup (padd p (F b) (v % p) (F a) 0) 32 := padd_S (I_SR hI hb).2 (I_SR hI hb).1 (I_SR hI ha).1
    have hr : Red p (padd p (F b) (v % p) (F a) 0) := padd_red (by omega)
    rw [plen_more hX (show 32 ≤ 80 by decide)]
    exact h2 _ (I_ok (I_set (I_set8 h1 (by decide) hr) ht hX hr))
set_option maxHeartbeats 4000000 in
theorem pr_divide {t a b fl : Int} (hI : INV2 p n sh S (F, P, V, T, H, c) (F, P, V, T, H, c)) (rt : IsI t) (ra : IsI a) (rb : IsI b) (rf : 0 ≤ fl ∧ fl ≤ 1) : Pair g p vI mX9_divide mX10_divide 5 0 0 5 [.int (iI t), .int (iI a), .int (iI b), .int (iI fl)] sh S n := by
  intro Q hk
  have hP := I_P hI
  have hpb := hP.bd
  refine c_X9_divide (I_W hI) ⟨rt, ra, rb, rf⟩ (fun h0 => ?_) (fun ht ha hb hz => ?_) (fun ht ha hb hz S' q r x hD hx hE => ?_)
  · refine hk (-2) sh S n (I_s96 hI) (fun Q2 h2 => ?_)
    exact c_X10_divide (I_M hI) ⟨rt, ra, rb, rf⟩ (fun _ => h2 S (I_ok hI)) (fun h1 h3 h4 => absurd ⟨h1, h3, h4⟩ h0) (fun h1 h3 h4 => absurd ⟨h1, h3, h4⟩ h0)
  · rw [I_pr hI hb] at hz
    refine hk (-3) sh S n (I_s96 hI) (fun Q2 h2 => ?_)
    exact c_X10_divide (I_M hI) ⟨rt, ra, rb, rf⟩ (fun h0 => absurd ⟨ht, ha, hb⟩ h0) (fun _ _ _ _ => h2 S (I_ok hI)) (fun _ _ _ h1 => absurd (by rw [I_mg hI hb, I_len hI hb]; exact hz) h1)
  · rw [I_pr hI hb] at hz
    rw [I_pr hI ha, I_pr hI hb] at hD
    have h1 := I_E hI hE
    have sa_ := I_SR hI ha
    have sb_ := I_SR hI hb
    have bb := plen_bd (F b) 32
    have ba := plen_bd (F a) 32
    have hD2 := pdv hP sa_ sb_ (show 0 < plen (F b) 32 by omega)
    obtain ⟨eq, er⟩ := DivS_uniq hP (show 0 < plen (F b) 32 by omega) sb_.2 (fun j hj => Sup_z sb_.1 hj) (plen_lead (by omega)) hD hD2
    have sq : SR p 32 q := ⟨fun j hj => hD.2.2.2.2 j (by omega), hD.1⟩
    have sr : SR p 32 r := ⟨fun j hj => hD.2.2.2.1 j (by omega), hD.2.1⟩
    rw [clip_id sq.1, clip_id sr.1] at hx
    have hX : SR p 32 x := by
      rw [hx]
      by_cases cf : fl = 0
      · rw [if_pos cf]; exact sq
      · rw [if_neg cf]; exact sr
    refine hk (plen x 32) sh S' n (I_s96 hI) (fun Q2 h2 => ?_)
    refine c_X10_divide (I_M h1) ⟨rt, ra, rb, rf⟩ (fun h0 => absurd ⟨ht, ha, hb⟩ h0) (fun _ _ _ h3 => absurd h3 (by rw [I_mg h1 hb, I_len hI hb]; exact hz)) (fun _ _ _ _ S2 hR hd y hy => ?_)
    rw [I_mg h1 ha, I_mg h1 hb, I_len hI ha, I_len hI hb, ← eq, ← er, ← hx] at hy
    subst hy
    rw [SR_80 hX]
    exact h2 _ (I_ok (I_set (I_scr h1 hd (MScr_of hR)) ht hX.1 hX.2))
theorem SR_pr {i : Int} {y : ZZ} (hI : INV2 p n sh S (F, P, V, T, H, c) y) (hi : 0 ≤ i ∧ i < 8) : SR p 32 (pr S i) := by
  rw [I_pr hI hi]; exact I_SR hI hi
set_option maxHeartbeats 4000000 in
theorem pr_gcd {t a b : Int} (hI : INV2 p n sh S (F, P, V, T, H, c) (F, P, V, T, H, c)) (rt : IsI t) (ra : IsI a) (rb : IsI b) : Pair g p vI mX9_gcd mX10_gcd 7 0 0 6 [.int (iI t), .int (iI a), .int (iI b)] sh S n := by
  intro Q hk
  have hP := I_P hI
  have hpb := hP.bd
  refine c_X9_gcd (I_W hI) ⟨rt, ra, rb⟩ (fun h0 => ?_) (fun ha hb => ?_) (fun ht ha hb k S' f1 f2 hE => ?_)
  · refine hk (-2) sh S n (I_s96 hI) (fun Q2 h2 => ?_)
    exact c_X10_gcd (I_M hI) ⟨rt, ra, rb⟩ (fun _ => h2 S (I_ok hI)) (fun h3 h4 => by
      have ea := SR_up (SR_pr hI h3) (show 32 ≤ 80 by decide)
      have eb := SR_up (SR_pr hI h4) (show 32 ≤ 80 by decide)
      rw [I_pr hI h3] at ea
      rw [I_pr hI h4] at eb
      rw [I_mg hI h3, I_mg hI h4]
      exact mu_room hP (Int.le_refl 80) ea eb (plen_bd _ 80).2 (plen_bd _ 80).2) (fun h1 h3 h4 => absurd ⟨h1, h3, h4⟩ h0)
  · have ea := SR_pr hI ha
    have eb := SR_pr hI hb
    have la := (plen_bd (pr S a) 32).2
    have lb := (plen_bd (pr S b) 32).2
    exact eu_room (M := 32) hP (by decide) (SR_up eb (by decide)) (SR_up ea (by decide)) (by rw [SR_64 eb]; exact lb) (by rw [SR_64 ea]; exact la) (Int.le_refl 0)
  · have ea := I_SR hI ha
    have eb := I_SR hI hb
    rw [I_pr hI ha, I_pr hI hb] at f1 f2 hE ⊢
    have h1 := I_E hI hE
    refine hk _ sh S' n (I_s96 hI) (fun Q2 h2 => ?_)
    have gA := I_mg h1 ha
    have gB_ := I_mg h1 hb
    refine c_X10_gcd (I_M h1) ⟨rt, ra, rb⟩ (fun h0 => absurd ⟨ht, ha, hb⟩ h0) (fun _ _ => ?_) (fun _ _ _ t' S2 x hR hd u1 u2 hx => ?_)
    · rw [gA, gB_]
      exact mu_room hP (Int.le_refl 80) (SR_up ea (by decide)) (SR_up eb (by decide)) (plen_bd _ 80).2 (plen_bd _ 80).2
    · rw [gA, gB_] at u1 u2 hx
      have hg := gcd_eq hP ea eb f1 f2 u1 u2
      rw [← hg.1] at hx
      have hX : SR p 32 x := by
        rw [hx]
        exact ⟨clip_sup, clip_red (by omega) (padd_red (by omega))⟩
      rw [← hx] at h2 hE h1
      rw [SR_80 hX]
      exact h2 _ (I_ok (I_set (I_scr h1 hd (MScr_of hR)) ht hX.1 hX.2))
set_option maxHeartbeats 4000000 in
theorem pr_cofactor {t a b : Int} (hI : INV2 p n sh S (F, P, V, T, H, c) (F, P, V, T, H, c)) (rt : IsI t) (ra : IsI a) (rb : IsI b) : Pair g p vI mX9_cofactor mX10_cofactor 7 0 0 6 [.int (iI t), .int (iI a), .int (iI b)] sh S n := by
  intro Q hk
  have hP := I_P hI
  have hpb := hP.bd
  have hMr : ∀ {S0 : SS} {z0 : ZZ}, INV2 p n sh S0 z0 (F, P, V, T, H, c) → (0 ≤ a ∧ a < 8) → (0 ≤ b ∧ b < 8) → ∀ t : Nat, (∀ s : Nat, s ≤ t → 0 < plen (mu p (mg S0 a) (mg S0 b) s).2.1 80) → plen (pdiv p (mu p (mg S0 a) (mg S0 b) t).1 (mu p (mg S0 a) (mg S0 b) t).2.1 (plen (mu p (mg S0 a) (mg S0 b) t).1 80) (plen (mu p (mg S0 a) (mg S0 b) t).2.1 80)).1 80 + plen (mu p (mg S0 a) (mg S0 b) t).2.2.2 80 ≤ 81 := fun h0 ha hb => by
    rw [I_mg h0 ha, I_mg h0 hb]
    exact mu_room hP (Int.le_refl 80) (SR_up (I_SR hI ha) (by decide)) (SR_up (I_SR hI hb) (by decide)) (plen_bd _ 80).2 (plen_bd _ 80).2
  have hMg : ∀ {S0 : SS} {z0 : ZZ}, INV2 p n sh S0 z0 (F, P, V, T, H, c) → (0 ≤ a ∧ a < 8) → (0 ≤ b ∧ b < 8) → ∀ t : Nat, MuT p (mg S0 a) (mg S0 b) t → 0 < plen (mg S0 b) 80 → 0 < plen (mG p (mg S0 a) (mg S0 b) t) 80 ∧ 0 < plen (mC p (mg S0 a) (mg S0 b) t) 80 := fun h0 ha hb => by
    rw [I_mg h0 ha, I_mg h0 hb]
    exact fun t hT hl => mG_pos hP (I_SR hI ha) (I_SR hI hb) hT hl
  refine c_X9_cofactor (I_W hI) ⟨rt, ra, rb⟩ (fun h0 => ?_) (fun ha hb => ?_) (fun ha hb => ?_) (fun ht ha hb k S' f1 f2 hE => ?_)
  · refine hk (-2) sh S n (I_s96 hI) (fun Q2 h2 => ?_)
    exact c_X10_cofactor (I_M hI) ⟨rt, ra, rb⟩ (fun _ => h2 S (I_ok hI)) (hMr hI) (hMg hI) (fun h1 h3 h4 => absurd ⟨h1, h3, h4⟩ h0)
  · have ea := SR_pr hI ha
    have eb := SR_pr hI hb
    have la := (plen_bd (pr S a) 32).2
    have lb := (plen_bd (pr S b) 32).2
    exact eu_room (M := 32) hP (by decide) (SR_up eb (by decide)) (SR_up ea (by decide)) (by rw [SR_64 eb]; exact lb) (by rw [SR_64 ea]; exact la) (Int.le_refl 0)
  · have ea := SR_pr hI ha
    have eb := SR_pr hI hb
    exact eu_O hP (Int.le_refl 64) (SR_up ea (by decide)) (SR_up eb (by decide)) (plen_bd _ 64).2 (plen_bd _ 64).2
  · have ea := I_SR hI ha
    have eb := I_SR hI hb
    rw [I_pr hI ha, I_pr hI hb] at f1 f2 hE ⊢
    have h1 := I_E hI hE
    refine hk _ sh S' n (I_s96 hI) (fun Q2 h2 => ?_)
    have gA := I_mg h1 ha
    have gB_ := I_mg h1 hb
    refine c_X10_cofactor (I_M h1) ⟨rt, ra, rb⟩ (fun h0 => absurd ⟨ht, ha, hb⟩ h0) (hMr h1) (hMg h1) (fun _ _ _ t' S2 hR hd hT hr => ?_)
    rw [gA, gB_] at hT hr ⊢
    have hg := cof_eq hP ea eb f1 f2 hT
    rw [hg] at h2 h1
    have hX : Sup (mX p (F a) (F b) t') 32 := by
      rw [← hg]; exact clip_sup
    rw [plen_more hX (show 32 ≤ 80 by decide)]
    exact h2 _ (I_ok (I_set (I_scr h1 hd (MScr_of hR)) ht hX hr))
theorem cmpo_32 {p n m L : Int} {a b : Int → Int} (hn : 0 ≤ n ∧ n ≤ 32) (hm : 0 ≤ m ∧ m ≤ 32) (hb : ∀ j : Int, m ≤ j → b j = 0) (hbig : ¬ (1 < n ∧ 1 < m ∧ 32 < (n - 1) * (m - 1) + 1)) : Sup (cmpo p a b L n.toNat) 32 := by
  by_cases c0 : n = 0
  · subst c0
    exact Sup_pz
  · obtain ⟨s, hs⟩ : ∃ s : Nat, n = s + 1 := ⟨(n - 1).toNat, by omega⟩
    subst hs
    rw [show ((s : Int) + 1).toNat = s + 1 by omega]
    intro j hj
    by_cases cm : m ≤ 1
    · exact cmpo_z (e := 0) (Int.le_refl _) (fun i hi => hb i (by omega)) s j (by rw [Int.mul_zero]; omega)
    · refine cmpo_z (e := m - 1) (by omega) (fun i hi => hb i (by omega)) s j ?_
      rcases hj with hj | hj
      · exact Or.inl hj
      · refine Or.inr ?_
        by_cases c1 : s = 0
        · subst c1
          have : ((0 : Nat) : Int) * (m - 1) = 0 := Int.zero_mul _
          omega
        · have e : (s : Int) + 1 - 1 = s := by omega
          rw [e] at hbig
          have : (s : Int) * (m - 1) + 1 ≤ 32 := by
            by_cases q : 32 < (s : Int) * (m - 1) + 1
            · exact absurd ⟨by omega, by omega, q⟩ hbig
            · omega
          omega
set_option maxHeartbeats 4000000 in
theorem pr_compose {t a b : Int} (hI : INV2 p n sh S (F, P, V, T, H, c) (F, P, V, T, H, c)) (rt : IsI t) (ra : IsI a) (rb : IsI b) : Pair g p vI mX9_compose mX10_compose 6 0 0 6 [.int (iI t), .int (iI a), .int (iI b)] sh S n := by
  intro Q hk
  have hP := I_P hI
  have hpb := hP.bd
  have hMr : ∀ {S0 : SS} {z0 : ZZ}, INV2 p n sh S0 z0 (F, P, V, T, H, c) → (0 ≤ a ∧ a < 8) → (0 ≤ b ∧ b < 8) → ¬ (1 < plen (mg S0 a) 80 ∧ 1 < plen (mg S0 b) 80 ∧ 32 < (plen (mg S0 a) 80 - 1) * (plen (mg S0 b) 80 - 1) + 1) → ∀ t : Nat, t < plen (mg S0 a) 80 → plen (cmpo p (mg S0 a) (mg S0 b) (plen (mg S0 a) 80) t) 80 + plen (mg S0 b) 80 ≤ 81 := fun h0 ha hb => by
    rw [I_mg h0 ha, I_mg h0 hb, I_len hI ha, I_len hI hb]
    intro hbig t ht
    have h := cmpo_room (p := p) (N := 80) (a := F a) (b := F b) (L := plen (F a) 32) (plen_bd (F b) 32) (fun j hj => Sup_len (I_SR hI hb).1 hj) hbig t ht
    omega
  refine c_X9_compose (I_W hI) ⟨rt, ra, rb⟩ (fun h0 => ?_) (fun ha hb hbig t ht => ?_) (fun ht ha hb hbig => ?_) (fun ht ha hb hbig S' hE => ?_)
  · refine hk (-2) sh S n (I_s96 hI) (fun Q2 h2 => ?_)
    exact c_X10_compose (I_M hI) ⟨rt, ra, rb⟩ (fun _ => h2 S (I_ok hI)) (hMr hI) (fun h1 h3 h4 => absurd ⟨h1, h3, h4⟩ h0) (fun h1 h3 h4 => absurd ⟨h1, h3, h4⟩ h0)
  · exact cmpo_room (plen_bd (pr S b) 32) (fun j hj => Sup_len (SR_pr hI hb).1 hj) hbig t ht
  · rw [I_pr hI ha, I_pr hI hb] at hbig
    refine hk (-4) sh S n (I_s96 hI) (fun Q2 h2 => ?_)
    refine c_X10_compose (I_M hI) ⟨rt, ra, rb⟩ (fun h0 => absurd ⟨ht, ha, hb⟩ h0) (hMr hI) (fun _ _ _ _ => h2 S (I_ok hI)) (fun _ _ _ h3 => absurd ?_ h3)
    rw [I_mg hI ha, I_mg hI hb, I_len hI ha, I_len hI hb]
    exact hbig
  · rw [I_pr hI ha, I_pr hI hb] at hbig hE ⊢
    have ea := I_SR hI ha
    have eb := I_SR hI hb
    have h1 := I_E hI hE
    have hX : Sup (cmpo p (F a) (F b) (plen (F a) 32) (plen (F a) 32).toNat) 32 := cmpo_32 (plen_bd (F a) 32) (plen_bd (F b) 32) (fun j hj => Sup_len eb.1 hj) hbig
    have hr : Red p (cmpo p (F a) (F b) (plen (F a) 32) (plen (F a) 32).toNat) := (cmpo_ok (lb := plen (F b) 32) (by omega) (fun j hj => Sup_len eb.1 hj) _ (fun s hs => cmpo_room (plen_bd (F b) 32) (fun j hj => Sup_len eb.1 hj) hbig s (by omega))).2
    refine hk _ sh S' n (I_s96 hI) (fun Q2 h2 => ?_)
    rw [clip_id hX] at h2 h1
    refine c_X10_compose (I_M h1) ⟨rt, ra, rb⟩ (fun h0 => absurd ⟨ht, ha, hb⟩ h0) (hMr h1) (fun _ _ _ h3 => absurd h3 ?_) (fun _ _ _ _ S2 x hR hd hx => ?_)
    · rw [I_mg h1 ha, I_mg h1 hb, I_len hI ha, I_len hI hb]
      exact hbig
    · rw [I_mg h1 ha, I_mg h1 hb, I_len hI ha] at hx
      subst hx
      rw [plen_more hX (show 32 ≤ 80 by decide)]
      exact h2 _ (I_ok (I_set (I_scr h1 hd (MScr_of hR)) ht hX hr))
set_option maxHeartbeats 4000000 in
theorem pr_move {t a v : Int} (hI : INV2 p n sh S (F, P, V, T, H, c) (F, P, V, T, H, c)) (rt : IsI t) (ra : IsI a) (rv : IsI v) : Pair g p vI mX9_move mX10_move 6 0 0 3 [.int (iI t), .int (iI a), .int (iI v)] sh S n := by
  intro Q hk
  have hpb := (I_P hI).bd
  refine c_X9_move (I_W hI) ⟨rt, ra, rv⟩ (fun h0 => ?_) (fun ht ha S' hE => ?_)
  · refine hk (-2) sh S n (I_s96 hI) (fun Q2 h2 => ?_)
    exact c_X10_move (I_M hI) ⟨rt, ra, rv⟩ (fun _ => h2 S (I_ok hI)) (fun h1 h3 => absurd ⟨h1, h3⟩ h0)
  · rw [I_pr hI ha] at hE ⊢
    have h1 := I_E hI hE
    have ea := I_SR hI ha
    have hX := pmove_ok (p := p) (b := v % p) (by omega) ea.1 ea.2
    refine hk _ sh S' n (I_s96 hI) (fun Q2 h2 => ?_)
    refine c_X10_move (I_M h1) ⟨rt, ra, rv⟩ (fun h0 => absurd ⟨ht, ha⟩ h0) (fun _ _ => ?_)
    rw [I_mg h1 ha, pmove_more ea.1 (show 32 ≤ 80 by decide), plen_more hX.1 (show 32 ≤ 80 by decide)]
    exact h2 _ (I_ok (I_set (I_set8 h1 (by decide) hX.2) ht hX.1 hX.2))
end INVS
