/-! cell, lay -/
section INVS
variable {g : GC} {p : Int} {n : Nat} {sh : SH} {S S' S1 : SS} {F : ZF} {P : ZP} {V : ZV} {T : ZT} {H H2 : ZH} {c : Int} {z y : ZZ}
theorem I_CH (hI : INV2 p n sh S (F, P, V, T, H, c) y) {s : Int} (hs : 0 ≤ s ∧ s < 4) : S.1 (sa s) 0 = H.1 s ∧ (H.1 s ≠ -1 → S.1 (sa s) 1 = H.2.1 s ∧ ∀ i : Int, 0 ≤ i → i < H.2.1 s → S.2.1 (sa s + 1) i = H.2.2 s i) := hI.1.2.2.2.2.1.2.2 s hs.1 hs.2
theorem I_HM (hI : INV2 p n sh S z (F, P, V, T, H, c)) {s : Int} (hs : 0 ≤ s ∧ s < 4) : (S.2.1 109 s = 0 ∧ H.1 s = -1) ∨ (S.2.1 109 s = 1 ∧ H.1 s ≠ -1 ∧ S.2.1 110 s = H.1 s ∧ S.2.1 111 s = H.2.1 s ∧ ∀ i : Int, 0 ≤ i → i < H.2.1 s → S.2.1 112 (40 * s + i) = H.2.2 s i) := hI.2.1.2.2.2.2.1.2 s hs.1 hs.2
theorem CH_write {s i v : Int} (hH : CH sh S H) (hs : 0 ≤ s ∧ s < 4) (hi : 0 ≤ i ∧ i < 40) (hv : IsI v) : CH sh (setA S (sa s + 1) i v) (H.1, H.2.1, fun q j => if q = s ∧ j = i then v else H.2.2 q j) := by
  obtain ⟨h1, h2, h3⟩ := hH
  have hb := sa_bd hs
  have g2 : (setA S (sa s + 1) i v).2.1 (sa s + 1) = iup (S.2.1 (sa s + 1)) i v := putA_at
  have ne : ∀ a : Nat, a ≠ sa s + 1 → Eqa S (setA S (sa s + 1) i v) a := fun a a2 => Eqa_sA a2
  have r1 : (setA S (sa s + 1) i v).1 = S.1 := rfl
  have r2 : (setA S (sa s + 1) i v).2.2 = S.2.2 := rfl
  generalize setA S (sa s + 1) i v = S' at g2 ne r1 r2 ⊢
  refine ⟨fun q q0 q1 => ?_, fun q j q0 q1 => ?_, fun q q0 q1 => ?_⟩
  · obtain ⟨u1, u2, u3, u4, u5, u6⟩ := h1 q q0 q1
    by_cases ci : q = s
    · subst ci
      exact ⟨u1, u2, by rw [r2]; exact u3, by rw [r1]; exact u4, by rw [r1]; exact u5, by rw [g2]; exact Sup_iup u6 (by omega)⟩
    · have hd := sa_inj ⟨q0, q1⟩ hs ci
      exact ⟨u1, u2, by rw [r2]; exact u3, by rw [r1]; exact u4, by rw [r1]; exact u5, by rw [(ne (sa q + 1) (by omega)).2.1]; exact u6⟩
  · by_cases ci : q = s
    · subst ci
      rw [g2]
      by_cases cj : j = i
      · rw [cj, iup_at]; exact hv
      · rw [iup_ne cj]; exact h2 q j q0 q1
    · have hd := sa_inj ⟨q0, q1⟩ hs ci
      rw [(ne (sa q + 1) (by omega)).2.1]
      exact h2 q j q0 q1
  · obtain ⟨v1, v2⟩ := h3 q q0 q1
    rw [r1]
    refine ⟨v1, fun hn => ⟨(v2 hn).1, fun j j0 j1 => ?_⟩⟩
    show S'.2.1 (sa q + 1) j = if q = s ∧ j = i then v else H.2.2 q j
    by_cases ci : q = s
    · subst ci
      rw [g2]
      by_cases cj : j = i
      · rw [cj, iup_at, if_pos ⟨rfl, rfl⟩]
      · rw [iup_ne cj, if_neg (fun w => cj w.2)]
        exact (v2 hn).2 j j0 j1
    · have hd := sa_inj ⟨q0, q1⟩ hs ci
      rw [(ne (sa q + 1) (by omega)).2.1, if_neg (fun w => ci w.1)]
      exact (v2 hn).2 j j0 j1
set_option maxHeartbeats 4000000 in
theorem pr_cell {s i v : Int} (hI : INV2 p n sh S (F, P, V, T, H, c) (F, P, V, T, H, c)) (rs : IsI s) (ri : IsI i) (rv : IsI v) : Pair g p vI mX9_cell mX10_cell 3 0 0 3 [.int (iI s), .int (iI i), .int (iI v)] sh S n := by
  intro Q hk
  have hH := hI.1.2.2.2.2.1
  refine c_X9_cell (I_W hI) hH.1 ⟨rs, ri, rv⟩ (fun h0 => ?_) (fun h1 h2' => ?_) (fun h1 h2' h3 => ?_) (fun h1 h2' h3 => ?_)
  · refine hk (-2) sh S n (I_s96 hI) (fun Q2 h2 => ?_)
    exact c_X10_cell (I_MH hI) rs ri rv (fun _ => h2 S (I_ok hI)) (fun a1 => absurd a1 h0) (fun a1 => absurd a1 h0) (fun a1 => absurd a1 h0)
  · rw [(I_CH hI h1).1] at h2'
    have hm := I_HM hI h1
    refine hk (-11) sh S n (I_s96 hI) (fun Q2 h2 => ?_)
    refine c_X10_cell (I_MH hI) rs ri rv (fun a0 => absurd h1 a0) (fun _ _ => h2 S (I_ok hI)) (fun _ a2 _ => ?_) (fun _ a2 _ => ?_)
    · rcases hm with hm | hm
      · exfalso; omega
      · exact absurd h2' hm.2.1
    · rcases hm with hm | hm
      · exfalso; omega
      · exact absurd h2' hm.2.1
  · obtain ⟨e1, e2⟩ := I_CH hI h1
    rw [e1] at h2'
    rw [(e2 h2').1] at h3
    rcases I_HM hI h1 with hm | ⟨m1, m2, m3, m4, m5⟩
    · exact absurd hm.2 h2'
    · refine hk (-12) sh S n (I_s96 hI) (fun Q2 h2 => ?_)
      exact c_X10_cell (I_MH hI) rs ri rv (fun a0 => absurd h1 a0) (fun _ a2 => by exfalso; omega) (fun _ _ _ => h2 S (I_ok hI)) (fun _ _ a3 => absurd (by rw [← m4]; exact a3) h3)
  · obtain ⟨e1, e2⟩ := I_CH hI h1
    have h40 := (hH.1 s h1.1 h1.2).2.2.2.2.1
    have hb := sa_bd h1
    have h4 : INV2 p n sh (setA S (sa s + 1) i (cut_ (S.1 (sa s) 0) v)) (F, P, V, T, (H.1, H.2.1, fun q j => if q = s ∧ j = i then cut_ (S.1 (sa s) 0) v else H.2.2 q j), c) (F, P, V, T, H, c) := I_hc hI (fun a ha => Eqa_sA (by omega)) (CH_write hH h1 (by omega) (cut_I rv))
    rw [e1] at h2' h4 ⊢
    rw [(e2 h2').1] at h3 h40
    have cI := cut_I (so := H.1 s) rv
    generalize setA S (sa s + 1) i (cut_ (H.1 s) v) = S1 at h4 ⊢
    rcases I_HM h4 h1 with hm | ⟨m1, m2, m3, m4, m5⟩
    · exact absurd hm.2 h2'
    · refine hk 1 sh S1 n (I_s96 hI) (fun Q2 h2 => ?_)
      refine c_X10_cell (I_MH h4) rs ri rv (fun a0 => absurd h1 a0) (fun _ a2 => by exfalso; omega) (fun _ _ a3 => absurd (by rw [m4]; exact h3) a3) (fun _ _ _ => ?_)
      rw [m3]
      refine h2 _ (I_ok (I_hm h4 rfl (fun a ha => putA_ne (by omega)) rfl ?_))
      obtain ⟨⟨a1, a2, a3, a4, a5, a6, a7, a8, a9, a10, a11, a12, a13, a14⟩, e⟩ := h4.2.1.2.2.2.2.1
      have e109 : (setA S1 112 (40 * s + i) (cut_ (H.1 s) v)).2.1 109 = S1.2.1 109 := putA_ne (by decide)
      have e110 : (setA S1 112 (40 * s + i) (cut_ (H.1 s) v)).2.1 110 = S1.2.1 110 := putA_ne (by decide)
      have e111 : (setA S1 112 (40 * s + i) (cut_ (H.1 s) v)).2.1 111 = S1.2.1 111 := putA_ne (by decide)
      have e112 : (setA S1 112 (40 * s + i) (cut_ (H.1 s) v)).2.1 112 = iup (S1.2.1 112) (40 * s + i) (cut_ (H.1 s) v) := putA_at
      have r2 : (setA S1 112 (40 * s + i) (cut_ (H.1 s) v)).2.2 = S1.2.2 := rfl
      generalize setA S1 112 (40 * s + i) (cut_ (H.1 s) v) = S2 at e109 e110 e111 e112 r2 ⊢
      refine ⟨⟨a1, by rw [r2]; exact a2, by rw [r2]; exact a3, by rw [r2]; exact a4, by rw [r2]; exact a5, a6, a7, a8, a9, by rw [e109]; exact a10, by rw [e110]; exact a11, by rw [e111]; exact a12, by rw [e109, e111]; exact a13, fun j => ?_⟩, fun q q0 q1 => ?_⟩
      · rw [e112]
        by_cases cj : j = 40 * s + i
        · rw [cj, iup_at]; exact cI
        · rw [iup_ne cj]; exact a14 j
      · rw [e109, e110, e111, e112]
        show (S1.2.1 109 q = 0 ∧ H.1 q = -1) ∨ (S1.2.1 109 q = 1 ∧ H.1 q ≠ -1 ∧ S1.2.1 110 q = H.1 q ∧ S1.2.1 111 q = H.2.1 q ∧ ∀ j : Int, 0 ≤ j → j < H.2.1 q → iup (S1.2.1 112) (40 * s + i) (cut_ (H.1 s) v) (40 * q + j) = if q = s ∧ j = i then cut_ (H.1 s) v else H.2.2 q j)
        rcases e q q0 q1 with he | ⟨p1, p2, p3, p4, p5⟩
        · exact Or.inl he
        · have hz := a13 q p1
          have p4' : S1.2.1 111 q = H.2.1 q := p4
          refine Or.inr ⟨p1, p2, p3, p4, fun j j0 j1 => ?_⟩
          by_cases cq : q = s ∧ j = i
          · obtain ⟨rfl, rfl⟩ := cq
            rw [iup_at, if_pos ⟨rfl, rfl⟩]
          · rw [iup_ne (by omega), if_neg cq]
            exact p5 j j0 j1
set_option maxHeartbeats 4000000 in
theorem pr_lay {a s so at_ nn : Int} (hI : INV2 p n sh S (F, P, V, T, H, c) (F, P, V, T, H, c)) (ra : IsI a) (rs : IsI s) (ro : IsI so) (rt : IsI at_) (rn : IsI nn) : Pair g p vI mX9_lay mX10_lay 5 0 0 3 [.int (iI a), .int (iI s), .int (iI so), .int (iI at_), .int (iI nn)] sh S n := by
  intro Q hk
  have hpb := (I_P hI).bd
  have hH := hI.1.2.2.2.2.1
  refine c_X9_lay (I_W hI) hH.1 hH.2.1 ⟨ra, rs, ro, rt, rn⟩ (fun h0 => ?_) (fun ha hs ho hn h1 h2' => ?_) (fun ha hs ho hn h1 => ?_) (fun ha hs ho hn h1 h2' h3 => ?_) (fun ha hs ho hn h1 h2' h3 S' hE => ?_)
  · refine hk (-2) sh S n (I_s96 hI) (fun Q2 h2 => ?_)
    exact c_X10_lay (I_M hI) (I_MH hI) ⟨ra, rs, ro, rt, rn⟩ (fun _ => h2 S (I_ok hI)) (fun a1 a2 a3 a4 => absurd ⟨a1, a2, a3, a4⟩ h0) (fun a1 a2 a3 a4 => absurd ⟨a1, a2, a3, a4⟩ h0) (fun a1 a2 a3 a4 => absurd ⟨a1, a2, a3, a4⟩ h0) (fun a1 a2 a3 a4 => absurd ⟨a1, a2, a3, a4⟩ h0)
  · rw [(I_CH hI hs).1] at h1 h2'
    rcases I_HM hI hs with hm | ⟨m1, m2, m3, m4, m5⟩
    · exact absurd hm.2 h1
    · refine hk (-13) sh S n (I_s96 hI) (fun Q2 h2 => ?_)
      exact c_X10_lay (I_M hI) (I_MH hI) ⟨ra, rs, ro, rt, rn⟩ (fun a0 => absurd ⟨ha, hs, ho, hn⟩ a0) (fun _ _ _ _ _ _ => h2 S (I_ok hI)) (fun _ _ _ _ a5 => by exfalso; omega) (fun _ _ _ _ _ a6 => by exfalso; omega) (fun _ _ _ _ _ a6 => by exfalso; omega)
  · rw [(I_CH hI hs).1] at h1
    rcases I_HM hI hs with hm | ⟨m1, m2, m3, m4, m5⟩
    · refine hk (-11) sh S n (I_s96 hI) (fun Q2 h2 => ?_)
      exact c_X10_lay (I_M hI) (I_MH hI) ⟨ra, rs, ro, rt, rn⟩ (fun a0 => absurd ⟨ha, hs, ho, hn⟩ a0) (fun _ _ _ _ a5 => by exfalso; omega) (fun _ _ _ _ _ => h2 S (I_ok hI)) (fun _ _ _ _ a5 => by exfalso; omega) (fun _ _ _ _ a5 => by exfalso; omega)
    · exact absurd h1 m2
  · obtain ⟨e1, e2⟩ := I_CH hI hs
    rw [e1] at h1 h2'
    rw [(e2 h1).1] at h3
    rcases I_HM hI hs with hm | ⟨m1, m2, m3, m4, m5⟩
    · exact absurd hm.2 h1
    · refine hk (-12) sh S n (I_s96 hI) (fun Q2 h2 => ?_)
      exact c_X10_lay (I_M hI) (I_MH hI) ⟨ra, rs, ro, rt, rn⟩ (fun a0 => absurd ⟨ha, hs, ho, hn⟩ a0) (fun _ _ _ _ _ a6 => by exfalso; omega) (fun _ _ _ _ a5 => by exfalso; omega) (fun _ _ _ _ _ _ _ => h2 S (I_ok hI)) (fun _ _ _ _ _ _ a7 => absurd (by rw [← m4]; exact a7) h3)
  · obtain ⟨e1, e2⟩ := I_CH hI hs
    rw [e1] at h1 h2'
    obtain ⟨e3, e4⟩ := e2 h1
    rw [e3] at h3
    have h4 := I_E hI hE
    rcases I_HM h4 hs with hm | ⟨m1, m2, m3, m4, m5⟩
    · exact absurd hm.2 h1
    · have eX : lyd p (S'.2.1 112) (40 * s + at_) nn = lyd p (S.2.1 (sa s + 1)) at_ nn := funext fun j => by
        unfold lyd
        by_cases cj : 0 ≤ j ∧ j < nn
        · rw [if_pos cj, if_pos cj]
          have := h3 (by omega)
          rw [e4 (at_ + j) (by omega) (by omega), show 40 * s + at_ + j = 40 * s + (at_ + j) by omega, m5 (at_ + j) (by omega) (by omega)]
        · rw [if_neg cj, if_neg cj]
      have hX : Sup (lyd p (S.2.1 (sa s + 1)) at_ nn) 32 := lyd_s32 (by omega)
      have hr : Red p (lyd p (S.2.1 (sa s + 1)) at_ nn) := lyd_red (by omega)
      refine hk _ sh S' n (I_s96 hI) (fun Q2 h2 => ?_)
      refine c_X10_lay (I_M h4) (I_MH h4) ⟨ra, rs, ro, rt, rn⟩ (fun a0 => absurd ⟨ha, hs, ho, hn⟩ a0) (fun _ _ _ _ _ a6 => by exfalso; omega) (fun _ _ _ _ a5 => by exfalso; omega) (fun _ _ _ _ _ _ a7 => absurd (by rw [m4]; exact h3) a7) (fun _ _ _ _ _ _ _ => ?_)
      rw [eX, plen_more hX (show 32 ≤ 80 by decide)]
      exact h2 _ (I_ok (I_set h4 ha hX hr))
end INVS
