/-! fill, right -/
theorem right_SR {p m k : Int} {xs vs : Int → Int} {c : Nat} (hP : IsP p) (hm : 0 ≤ m ∧ m ≤ 16) (hk : 1 ≤ k ∧ k ≤ m) (h1 : ∀ s : Nat, s < c → (m + k + 1) / 2 < plen (eu p (itp p xs vs m.toNat).2 (itp p xs vs m.toNat).1 s).2.1 64) : SR p 64 (pdiv p (eu p (itp p xs vs m.toNat).2 (itp p xs vs m.toNat).1 c).2.1 (eu p (itp p xs vs m.toNat).2 (itp p xs vs m.toNat).1 c).2.2.2 (plen (eu p (itp p xs vs m.toNat).2 (itp p xs vs m.toNat).1 c).2.1 64) (plen (eu p (itp p xs vs m.toNat).2 (itp p xs vs m.toNat).1 c).2.2.2 64)).1 := by
  have hpb := hP.bd
  obtain ⟨k1, k2, k3, k4, k5⟩ := itp_ok (xs := xs) (vs := vs) hP m.toNat (by omega)
  have kz := itp_z (xs := xs) (vs := vs) hP m.toNat (by omega)
  have n2 : plen (itp p xs vs m.toNat).2 64 = m + 1 := by
    rw [itp_2, (nds_ok (xs := xs) (t := m.toNat) (N := 64) hP (by omega)).2]; omega
  have hFl : plen (itp p xs vs m.toNat).1 64 ≤ m := plen_le hm.1 (fun j hj _ => kz j (by omega))
  have IE := (eu_I hP (show (17 : Int) ≤ 64 by decide) ⟨k3, k4⟩ ⟨k1, k2⟩ (by omega) (by omega) c (fun s hs => by have := h1 s hs; omega)).1
  have hv := eu_v hP (show (17 : Int) ≤ 64 by decide) ⟨k3, k4⟩ ⟨k1, k2⟩ (by omega) (by omega) (show 0 ≤ (m + k + 1) / 2 by omega) c h1
  have bw_ := plen_bd (eu p (itp p xs vs m.toNat).2 (itp p xs vs m.toNat).1 c).2.1 64
  have hS := pdv hP IE.2.1 IE.2.2.2.1 hv
  exact ⟨fun j hj => hS.2.2.2.2 j (by omega), hS.1⟩
section INVS
variable {g : GC} {p : Int} {n : Nat} {sh : SH} {S S' : SS} {F : ZF} {P : ZP} {V : ZV} {T : ZT} {H : ZH} {c : Int} {z y : ZZ}
set_option maxHeartbeats 4000000 in
theorem pr_fill {t : Int} (hI : INV2 p n sh S (F, P, V, T, H, c) (F, P, V, T, H, c)) (rt : IsI t) : Pair g p vI mX9_fill mX10_fill 6 0 0 4 [.int (iI t)] sh S n := by
  intro Q hk
  have hP := I_P hI
  have hpb := hP.bd
  have hm := I_m hI
  refine c_X9_fill (I_W hI) (I_L hI) rt (fun h0 => ?_) (fun ht S' hW hL hS hF => ?_)
  · refine hk (-2) sh S n (I_s96 hI) (fun Q2 h2 => ?_)
    exact c_X10_fill (I_M hI) (I_MP hI) (I_Mr hI) rt ⟨_, by rw [I_105 hI, I_106 hI]; exact fill_ex hP hm (I_rx hI)⟩ (fun _ => h2 S (I_ok hI)) (fun h1 => absurd h1 h0)
  · have hz := itp_z (xs := P.1) (vs := P.2.1) hP P.2.2.toNat (by omega)
    have hX : Sup (itp p P.1 P.2.1 P.2.2.toNat).1 32 := fun j hj => hz j (by omega)
    have hr := (itp_ok (xs := P.1) (vs := P.2.1) hP P.2.2.toNat (by omega)).2.1
    rw [I_31 hI, I_32 hI, clip_id hX] at hF ⊢
    have h1 : INV2 p n sh S' ((fun i => if i = t then (itp p P.1 P.2.1 P.2.2.toNat).1 else F i), P, V, T, H, c) (F, P, V, T, H, c) := I_D2 hI hW hL hS (fun i i0 i1 => by
      show pr S' i = if i = t then (itp p P.1 P.2.1 P.2.2.toNat).1 else F i
      rw [hF i i0 i1, I_pr hI ⟨i0, i1⟩])
    refine hk _ sh S' n (I_s96 hI) (fun Q2 h2 => ?_)
    refine c_X10_fill (I_M h1) (I_MP h1) (I_Mr h1) rt ⟨_, by rw [I_105 h1, I_106 h1]; exact fill_ex hP hm (I_rx hI)⟩ (fun h0 => absurd ht h0) (fun _ S2 x hs hd hR2 rx xz hSol => ?_)
    rw [I_105 h1, I_106 h1] at hSol
    have e := fill_uq hP hm (I_rx hI) rx xz hSol
    subst e
    rw [plen_more hX (show 32 ≤ 80 by decide)]
    exact h2 _ (I_ok (I_set (I_scr h1 hd hs) ht hX hr))
set_option maxHeartbeats 4000000 in
theorem pr_right {t k : Int} (hI : INV2 p n sh S (F, P, V, T, H, c) (F, P, V, T, H, c)) (rt : IsI t) (rk : IsI k) : Pair g p vI mX9_right mX10_right 7 0 0 5 [.int (iI t), .int (iI k)] sh S n := by
  intro Q hk
  have hP := I_P hI
  have hpb := hP.bd
  have hm := I_m hI
  have e31 := I_31 hI
  have e32 := I_32 hI
  obtain ⟨k1, k2, k3, k4, k5⟩ := itp_ok (xs := P.1) (vs := P.2.1) hP P.2.2.toNat (by omega)
  have kz := itp_z (xs := P.1) (vs := P.2.1) hP P.2.2.toNat (by omega)
  have n2 : plen (itp p P.1 P.2.1 P.2.2.toNat).2 64 = P.2.2 + 1 := by
    rw [itp_2, (nds_ok (xs := P.1) (t := P.2.2.toNat) (N := 64) hP (by omega)).2]; omega
  have hFl : plen (itp p P.1 P.2.1 P.2.2.toNat).1 64 ≤ P.2.2 := plen_le hm.1 (fun j hj _ => kz j (by omega))
  refine c_X9_right (Nd := (itp p P.1 P.2.1 P.2.2.toNat).2) (F := (itp p P.1 P.2.1 P.2.2.toNat).1) (I_W hI) (I_L hI) ⟨rt, rk⟩ (by rw [e31, e32]) (by rw [e31, e32]) (fun h0 => ?_) (fun ht hk1 hal => ?_) (fun ht hk1 _ => ?_) (fun ht hk1 _ c' f1 _ => ?_) (fun ht hk1 htah c' F0 S' f1 f2 hF0 hW hL hS hF => ?_)
  · refine hk (-2) sh S n (I_s96 hI) (fun Q2 h2 => ?_)
    exact c_X10_right (I_M hI) (I_MP hI) (I_Mr hI) ⟨rt, rk⟩ rfl rfl (fun _ => h2 S (I_ok hI)) (fun h1 h3 => absurd ⟨h1, h3⟩ h0) (fun h1 h3 => absurd ⟨h1, h3⟩ h0) (fun h1 h3 => absurd ⟨h1, h3⟩ h0)
  · rw [e31] at hal
    have nu : ¬ Unl P.1 P.2.2 := fun hu => by
      obtain ⟨i, i0, i1, i2⟩ := hal
      have := Unl_tah.mp hu i i0 i1
      omega
    refine hk (-3) sh S n (I_s96 hI) (fun Q2 h2 => ?_)
    exact c_X10_right (I_M hI) (I_MP hI) (I_Mr hI) ⟨rt, rk⟩ rfl rfl (fun h0 => absurd ⟨ht, hk1⟩ h0) (fun _ _ _ => h2 S (I_ok hI)) (fun _ _ hu => absurd (by rw [← I_105 hI]; exact hu) nu) (fun _ _ hu => absurd (by rw [← I_105 hI]; exact hu) nu)
  · exact eu_room (M := 17) hP (by decide) ⟨k3, k4⟩ ⟨k1, k2⟩ (by omega) (by omega) (by omega)
  · exact eu_v (M := 17) hP (by decide) ⟨k3, k4⟩ ⟨k1, k2⟩ (by omega) (by omega) (show 0 ≤ (P.2.2 + k + 1) / 2 by omega) c' f1
  · rw [e31] at htah
    have hu : Unl P.1 P.2.2 := Unl_tah.mpr htah
    rw [e31, e32]
    have h1 := I_D2 hI hW hL hS (fun i i0 i1 => (hF i i0 i1).trans (I_pr hI ⟨i0, i1⟩))
    have sF : SR p 64 F0 := by rw [hF0]; exact right_SR hP hm hk1 f1
    have gA := I_105 h1
    have gB_ := I_106 h1
    have hgao : ∀ f : Int → Int, SR p 64 f → plen f 64 ≤ k → wrg p f P.1 P.2.1 P.2.2.toNat ≤ (P.2.2 - k) / 2 → F0 = f := fun f a1 a2 a3 => hF0.trans (gao hP hm hk1 (I_rx hI) hu a1 a2 a3 f1 f2)
    refine ⟨fun hbad => ?_, fun hgood S2 hE hL2 => ?_⟩
    · refine hk (-1) sh S' n (I_s96 hI) (fun Q2 h2 => ?_)
      refine c_X10_right (I_M h1) (I_MP h1) (I_Mr h1) ⟨rt, rk⟩ rfl rfl (fun h0 => absurd ⟨ht, hk1⟩ h0) (fun _ _ h3 => ?_) (fun _ _ _ _ S3 hs hd hr3 => h2 _ (I_ok (I_scr h1 hd hs))) (fun _ _ _ x rx xz hSol qq r hD S3 hs hd hr3 => ⟨fun _ => h2 _ (I_ok (I_scr h1 hd hs)), fun hg => ?_⟩)
      · obtain ⟨i, i0, i1, j, j0, j1, e⟩ := h3
        rw [gA] at e
        exact absurd e (hu i i0 i1 j j0 j1)
      · exfalso
        rw [gA, gB_] at hg
        have hh : 0 ≤ (P.2.2 - k) / 2 := by omega
        obtain ⟨-, zN⟩ := bwN_z (hf := (P.2.2 - k) / 2) (k := k) (x := x)
        have lN : plen (bwN ((P.2.2 - k) / 2) k x) 80 ≤ (P.2.2 - k) / 2 + k := plen_le (by omega) (fun j hj _ => zN j hj)
        have sq : SR p 64 qq := ⟨fun j hj => hD.2.2.2.2 j (by omega), hD.1⟩
        have l6 : plen qq 80 = plen qq 64 := plen_more sq.1 (by decide)
        have := hgao qq sq (by omega) (by omega)
        rw [this] at hbad
        omega
    · have lF : plen F0 64 ≤ k := by omega
      have wF : wrg p F0 P.1 P.2.1 P.2.2.toNat ≤ (P.2.2 - k) / 2 := by omega
      have hX : Sup F0 32 := fun j hj => Sup_z sF.1 (by omega)
      rw [clip_id hX] at hE
      have h3 := I_E h1 hE
      refine hk _ sh S2 n (I_s96 hI) (fun Q2 h2 => ?_)
      have gA := I_105 h3
      have gB_ := I_106 h3
      refine c_X10_right (I_M h3) (I_MP h3) (I_Mr h3) ⟨rt, rk⟩ rfl rfl (fun h0 => absurd ⟨ht, hk1⟩ h0) (fun _ _ h4 => ?_) (fun _ _ _ hno => ?_) (fun _ _ _ x rx xz hSol qq r hD S3 hs hd hr3 => ?_)
      · obtain ⟨i, i0, i1, j, j0, j1, e⟩ := h4
        rw [gA] at e
        exact absurd e (hu i i0 i1 j j0 j1)
      · rw [gA, gB_] at hno
        obtain ⟨x, hx⟩ := bw_ex (xs := P.1) (vs := P.2.1) hP hm hk1 rfl sF lF wF
        exact absurd hx (hno x)
      · rw [gA, gB_] at hSol
        obtain ⟨u1, u2⟩ := bw_uq hP hm hk1 rfl (I_rx hI) hu sF lF wF rx hSol hD
        subst u1
        have l8 : plen qq 80 = plen qq 64 := plen_more sF.1 (by decide)
        rw [gA, gB_]
        refine ⟨fun hb => by exfalso; omega, fun _ => ?_⟩
        exact h2 _ (I_ok (I_set (I_scr h3 hd hs) ht hX sF.2))
end INVS
