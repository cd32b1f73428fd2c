/-! order, root, place, leave, see, told, value, look, power, relation -/
theorem rct_uq {p i : Int} {a : Int → Int} {x d : Nat} (hx : ev a (x : Int) 80 % p = 0) (hd : ev a (d : Int) 80 % p = 0) (rx : rct p a x = i) (rd : rct p a d = i) : x = d := by
  rcases Nat.lt_trichotomy x d with h | h | h
  · have h1 : rct p a (x + 1) = rct p a x + 1 := rct_y hx
    have h2 := rct_mono (p := p) (a := a) (x := x + 1) (d - (x + 1))
    rw [show x + 1 + (d - (x + 1)) = d by omega] at h2
    omega
  · exact h
  · have h1 : rct p a (d + 1) = rct p a d + 1 := rct_y hd
    have h2 := rct_mono (p := p) (a := a) (x := d + 1) (x - (d + 1))
    rw [show d + 1 + (x - (d + 1)) = x by omega] at h2
    omega
theorem rct_lt {p i : Int} {a : Int → Int} {x : Nat} (hxp : (x : Int) < p) (hx : ev a (x : Int) 80 % p = 0) (rx : rct p a x = i) : i < rct p a p.toNat := by
  have h1 : rct p a (x + 1) = rct p a x + 1 := rct_y hx
  have h2 := rct_mono (p := p) (a := a) (x := x + 1) (p.toNat - (x + 1))
  rw [show x + 1 + (p.toNat - (x + 1)) = p.toNat by omega] at h2
  omega
section INVS
variable {g : GC} {p : Int} {n : Nat} {sh : SH} {S S' : SS} {F : ZF} {P : ZP} {V : ZV} {T : ZT} {H : ZH} {c : Int}
set_option maxHeartbeats 4000000 in
theorem pr_order {a v : Int} (hI : INV2 p n sh S (F, P, V, T, H, c) (F, P, V, T, H, c)) (ra : IsI a) (rv : IsI v) : Pair g p vI mX9_order mX10_order 6 0 0 3 [.int (iI a), .int (iI v)] sh S n := by
  intro Q hk
  have hpb := (I_P hI).bd
  refine c_X9_order (I_W hI) ⟨ra, rv⟩ (fun h0 => ?_) (fun ha hz => ?_) (fun ha hz => ?_)
  · refine hk (-2) sh S n (I_s96 hI) (fun Q2 h2 => ?_)
    exact c_X10_order (I_M hI) ⟨ra, rv⟩ (fun _ => h2 S (I_ok hI)) (fun h1 => absurd h1 h0) 0 (fun h1 => absurd h1 h0) (fun h1 => absurd h1 h0)
  · rw [I_pr hI ha] at hz
    refine hk (-3) sh S n (I_s96 hI) (fun Q2 h2 => ?_)
    have hm : plen (mg S a) 80 = 0 := by rw [I_mg hI ha, I_len hI ha]; exact hz
    exact c_X10_order (I_M hI) ⟨ra, rv⟩ (fun h0 => absurd ha h0) (fun _ _ => h2 S (I_ok hI)) 0 (fun _ h1 => absurd hm h1) (fun _ h1 => absurd hm h1)
  · rw [I_pr hI ha] at hz ⊢
    have ea := I_SR hI ha
    have hX := pmove_ok (p := p) (b := v % p) (by omega) ea.1 ea.2
    obtain ⟨z, z1, z2, z3⟩ := pmove_nz (p := p) (b := v % p) (by omega) ea.1 ea.2 hz
    have zl := plen_gt hX.1 z2
    refine ⟨z, ⟨⟨z1.1, by rw [plen_more hX.1 (show 32 ≤ 64 by decide)]; exact zl⟩, z2, z3⟩, fun S' hW hS hF => ?_⟩
    have h1 := I_D1 hI hW hS hF
    refine hk z sh S' n (I_s96 hI) (fun Q2 h2 => ?_)
    have hm : plen (mg S' a) 80 ≠ 0 := by rw [I_mg h1 ha, I_len hI ha]; exact hz
    have em : pmove p (v % p) (mg S' a) 80 = pmove p (v % p) (F a) 32 := by rw [I_mg h1 ha, pmove_more ea.1 (show 32 ≤ 80 by decide)]
    refine c_X10_order (I_M h1) ⟨ra, rv⟩ (fun h0 => absurd ha h0) (fun _ h3 => absurd h3 hm) z (fun _ _ => ⟨by omega, by rw [em]; exact z2, by rw [em]; exact z3⟩) (fun _ _ => ?_)
    rw [em]
    exact h2 _ (I_ok (I_set8 h1 (by decide) hX.2))
set_option maxHeartbeats 4000000 in
theorem pr_root {a i : Int} (hI : INV2 p n sh S (F, P, V, T, H, c) (F, P, V, T, H, c)) (ra : IsI a) (ri : IsI i) : Pair g p vI mX9_root mX10_root 7 0 0 3 [.int (iI a), .int (iI i)] sh S n := by
  intro Q hk
  have hP := I_P hI
  have hpb := hP.bd
  refine c_X9_rootz (I_W hI) ⟨ra, ri⟩ (fun h0 => ?_) (fun ha hz => ?_) (fun ha hz => ?_) (fun ha hz k S' f1 f2 hW hS hF => ?_)
  · refine hk (-2) sh S n (I_s96 hI) (fun Q2 h2 => ?_)
    exact c_X10_root (I_M hI) ⟨ra, ri⟩ (fun _ => h2 S (I_ok hI)) (fun h1 => absurd h1 h0) (fun h1 => absurd h1 h0) (fun h1 => absurd h1 h0) (fun h1 => absurd h1 h0) (fun h1 => absurd h1 h0)
  · rw [I_pr hI ha] at hz
    refine hk (-3) sh S n (I_s96 hI) (fun Q2 h2 => ?_)
    have hm : plen (mg S a) 80 = 0 := by rw [I_mg hI ha, I_len hI ha]; exact hz
    exact c_X10_root (I_M hI) ⟨ra, ri⟩ (fun h0 => absurd ha h0) (fun _ _ => h2 S (I_ok hI)) (fun _ h1 => absurd hm h1) (fun _ h1 => absurd hm h1) (fun _ h1 => absurd hm h1) (fun _ h1 => absurd hm h1)
  · have ea := SR_pr hI ha
    have la := plen_bd (pr S a) 32
    have cl : 0 < plen (pr S a) 64 := by rw [SR_64 ea]; omega
    have hok := sk_ok hP ea.1 ea.2 (by decide) cl 13
    have hx : SR p 64 (skx p (pr S a)) := ⟨padd_S hok.2.1 hok.1 (Sup_up line_sup (by decide)), padd_red (by omega)⟩
    have hl : plen (skx p (pr S a)) 64 ≤ 63 := plen_le (by decide) (fun j hj _ => (padd_out hok.2.1 (line_sup _ (by omega))).trans (Sup_z hok.1 (by omega)))
    exact eu_room (M := 63) hP (by decide) (SR_up ea (by decide)) hx (by rw [SR_64 ea]; omega) hl (Int.le_refl 0)
  · have ea := I_SR hI ha
    rw [I_pr hI ha] at hz f1 f2 ⊢
    have h1 := I_D1 hI hW hS hF
    obtain ⟨r1, r2, r3⟩ := roots_main hP ea hz f1 f2
    have gA := I_mg h1 ha
    have hm : plen (mg S' a) 80 ≠ 0 := by rw [gA, I_len hI ha]; exact hz
    refine ⟨fun hi => ?_, fun hi hw => ?_, fun hi hw => ?_⟩
    · refine hk _ sh S' n (I_s96 hI) (fun Q2 h2 => ?_)
      refine c_X10_root (I_M h1) ⟨ra, ri⟩ (fun h0 => absurd ha h0) (fun _ h3 => absurd h3 hm) (fun _ _ h3 => by exfalso; omega) (fun _ _ x hx hv hr => ?_) (fun _ _ _ => ?_) (fun _ _ h3 => by exfalso; omega)
      · have := rct_bd (p := p) (xs := mg S' a) x
        exfalso; omega
      · rw [gA, r3]
        exact h2 _ (I_ok h1)
    · obtain ⟨d, d1, d2, d3, d4⟩ := srt_ok (i := i) hP p.toNat 0 i _ (by omega) r1 (fun d _ hd => r2 d hd) (by show rct p (F a) p.toNat - 0 = _; omega) hw.1 hw.2 (by show 0 + i = i; omega)
      refine hk _ sh S' n (I_s96 hI) (fun Q2 h2 => ?_)
      have d1' : srt p p.toNat 0 i (eu p (F a) (skx p (F a)) k).1 = (d : Int) := d1
      rw [d1'] at h2
      refine c_X10_root (I_M h1) ⟨ra, ri⟩ (fun h0 => absurd ha h0) (fun _ h3 => absurd h3 hm) (fun _ _ h3 => by exfalso; omega) (fun _ _ x hx hv hr => ?_) (fun _ _ h3 => absurd h3 hi) (fun _ _ _ h3 => ?_)
      · rw [gA] at hv hr
        rw [rct_uq hv d3 hr d4]
        exact h2 _ (I_ok h1)
      · rw [gA] at h3
        have := rct_lt d2 d3 d4
        exfalso; omega
    · refine hk _ sh S' n (I_s96 hI) (fun Q2 h2 => ?_)
      refine c_X10_root (I_M h1) ⟨ra, ri⟩ (fun h0 => absurd ha h0) (fun _ h3 => absurd h3 hm) (fun _ _ _ => h2 _ (I_ok h1)) (fun _ _ x hx hv hr => ?_) (fun _ _ h3 => absurd h3 hi) (fun _ _ _ _ => h2 _ (I_ok h1))
      rw [gA] at hv hr
      have h5 := rct_lt hx hv hr
      have h6 := rct_bd (p := p) (xs := F a) x
      exfalso
      exact hw ⟨by omega, by omega⟩
end INVS
