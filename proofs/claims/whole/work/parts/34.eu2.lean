/-! Algebra: euclid from its entry; lastByFactor; commonDivisor -/
theorem Sup_more {xs : Int → Int} {N M : Nat} (h : Sup xs N) (hN : (N : Int) ≤ M) : Sup xs M := fun j hj => h j (by omega)
set_option maxRecDepth 100000 in
set_option maxHeartbeats 4000000 in
theorem c_X0_euclid {g : GC} {p : Int} {sh : SH} {S : SS} {n a N b M o w f v : Nat} {bd : Int} {Q : Option Value → GA → Nat → Prop} (hA : Alg p sh S) (hE : EuP p sh S o w f v) (ha : Row p sh S a N) (hb : Row p sh S b M) (hna : ¬ EuD a) (hnb : ¬ EuD b) (hbd : 0 ≤ bd ∧ bd ≤ 100)
    (hroom : ∀ t : Nat, (∀ s : Nat, s ≤ t → bd < plen (eu p (rv S a) (rv S b) s).2.1 64) → t ≤ 62 ∧ plen (pdiv p (eu p (rv S a) (rv S b) t).1 (eu p (rv S a) (rv S b) t).2.1 (plen (eu p (rv S a) (rv S b) t).1 64) (plen (eu p (rv S a) (rv S b) t).2.1 64)).1 64 + plen (eu p (rv S a) (rv S b) t).2.2.2 64 ≤ 65)
    (hq : ∀ (t : Nat) (S' : SS) (o w f v : Nat), Alg p sh S' → Same EuD S S' → EuP p sh S' o w f v → EuV S' o w f v (eu p (rv S a) (rv S b) t) → (∀ s : Nat, s < t → bd < plen (eu p (rv S a) (rv S b) s).2.1 64) → plen (eu p (rv S a) (rv S b) t).2.1 64 ≤ bd → Q none (hp g sh S') n) :
    GCall g mX0_euclid 5 0 0 [gr g 13, gr g a, gr g b, .int (iI bd)] (hp g sh S) n Q := by
  have hA' := hA
  obtain ⟨hP, hrs, h13, p0, p14, p16, p18, -, r14, r16, r18, -⟩ := hA'
  have hE' := hE
  obtain ⟨e5, e6, e7, e8, hperm, ro, rw_, rf, rv_⟩ := hE'
  have hperm' := hperm
  obtain ⟨m1, m2, m3, m4, d1, d2, d3, d4, d5, d6⟩ := hperm'
  have hpb := hP.bd
  have ho1 := ro.1.1
  have hw1 := rw_.1.1
  have hf1 := rf.1.1
  have hv1 := rv_.1.1
  have hN := ha.2.1
  have hM := hb.2.1
  unfold EuD at hna hnb
  have hsa : Sup (rv S a) 64 := Sup_more ha.2.2.2.1 (by omega)
  have hsb : Sup (rv S b) 64 := Sup_more hb.2.2.2.1 (by omega)
  have vb : rv (rput S o (rv S a) 64) b = rv S b := rput_ne (by omega)
  have W1 : Row p sh (rput S o (rv S a) 64) w 64 := Row_ne rw_ (by omega)
  have F1 : Row p sh (rput (rput S o (rv S a) 64) w (rv S b) 64) f 64 := Row_ne (Row_ne rf (by omega)) (by omega)
  have V1 : Row p sh (rput (rput (rput S o (rv S a) 64) w (rv S b) 64) f pz 64) v 64 := Row_ne (Row_ne (Row_ne rv_ (by omega)) (by omega)) (by omega)
  have V2 : Row p sh (rput (rput (rput (rput S o (rv S a) 64) w (rv S b) 64) f pz 64) v pz 64) v 64 := Row_put V1 Sup_pz (Red_pz (by omega))
  refine GCall.of (by decide) (Nat.le_of_ble_eq_true rfl) (ls := [(0, _), (1, _), (2, _), (3, _)]) rfl ?_
  refine S_aload_n (pc := 0) dX0_euclid_0 rfl ?_
  refine S_getR (pc := 1) dX0_euclid_1 fX0_29 (by assumption) rfl (by assumption) ?_
  refine S_aload_n (pc := 4) dX0_euclid_4 rfl ?_
  refine S_callV (pc := 5) (ci := 4) (d2 := 3) (mc2 := 0) (ms2 := 0) (As := [_]) dX0_euclid_5 kX4_copy lkX0_91 (by assumption) rfl rfl rfl (Nat.le_of_ble_eq_true rfl) ⟨by decide, by decide⟩ (by decide) ?_
  refine c_X4_copy ro ha (by omega) (by omega) ?_
  rw [clip_id hsa]
  show G _ _ _ _ _ _ _ _ _ _ _ _ _
  refine S_aload_n (pc := 8) dX0_euclid_8 rfl ?_
  refine S_getR (pc := 9) dX0_euclid_9 fX0_32 (by assumption) rfl (by assumption) ?_
  refine S_aload_n (pc := 12) dX0_euclid_12 rfl ?_
  refine S_callV (pc := 13) (ci := 4) (d2 := 3) (mc2 := 0) (ms2 := 0) (As := [_]) dX0_euclid_13 kX4_copy lkX0_91 (by assumption) rfl rfl rfl (Nat.le_of_ble_eq_true rfl) ⟨by decide, by decide⟩ (by decide) ?_
  refine c_X4_copy W1 (Row_ne hb (by omega)) (by omega) (by omega) ?_
  rw [vb, clip_id hsb]
  show G _ _ _ _ _ _ _ _ _ _ _ _ _
  refine S_aload_n (pc := 16) dX0_euclid_16 rfl ?_
  refine S_getR (pc := 17) dX0_euclid_17 fX0_35 (by assumption) rfl (by assumption) ?_
  refine S_callV (pc := 20) (ci := 4) (d2 := 1) (mc2 := 0) (ms2 := 0) (As := []) dX0_euclid_20 kX4_wipe lkX0_63 (by assumption) rfl rfl rfl (Nat.le_of_ble_eq_true rfl) ⟨by decide, by decide⟩ (by decide) ?_
  refine c_X4_wipe F1 ?_
  show G _ _ _ _ _ _ _ _ _ _ _ _ _
  refine S_aload_n (pc := 23) dX0_euclid_23 rfl ?_
  refine S_getR (pc := 24) dX0_euclid_24 fX0_38 (by assumption) rfl (by assumption) ?_
  refine S_callV (pc := 27) (ci := 4) (d2 := 1) (mc2 := 0) (ms2 := 0) (As := []) dX0_euclid_27 kX4_wipe lkX0_63 (by assumption) rfl rfl rfl (Nat.le_of_ble_eq_true rfl) ⟨by decide, by decide⟩ (by decide) ?_
  refine c_X4_wipe V1 ?_
  show G _ _ _ _ _ _ _ _ _ _ _ _ _
  refine S_aload_n (pc := 30) dX0_euclid_30 rfl ?_
  refine S_getR (pc := 31) dX0_euclid_31 fX0_38 (by assumption) rfl (by assumption) ?_
  refine G_iconst (pc := 34) dX0_euclid_34 ?_
  refine G_iconst (pc := 35) dX0_euclid_35 ?_
  refine S_callV (pc := 36) (ci := 4) (d2 := 1) (mc2 := 0) (ms2 := 0) (As := [_, _]) dX0_euclid_36 kX4_set lkX0_59 (by assumption) rfl rfl rfl (Nat.le_of_ble_eq_true rfl) ⟨by decide, by decide⟩ (by decide) ?_
  refine c_X4_set V2 hpb.2 (by omega) (by omega) ?_
  rw [rput_rv, rput_rput]
  show G _ _ _ _ _ _ _ _ _ _ _ _ _
  refine G_iconst (pc := 39) dX0_euclid_39 ?_
  refine G_istore (pc := 40) (ls' := [(4, _), (0, _), (1, _), (2, _), (3, _)]) dX0_euclid_40 (by decide) rfl ?_
  refine G_ls (ls' := [(4, _), (0, _), (3, _)]) (lsub_c rfl (lsub_c rfl (lsub_c rfl lsub_n))) ?_
  refine l_X0_euclid (S0 := S) (A := rv S a) (B := rv S b) hbd hroom hq 64 0 _ o w f v (by omega) ?_ ?_ ?_ ?_ (fun s hs => absurd hs (by omega))
  · exact Alg_ne (Alg_ne (Alg_ne (Alg_ne hA (by omega) (by omega) (by omega) (by omega)) (by omega) (by omega) (by omega) (by omega)) (by omega) (by omega) (by omega) (by omega)) (by omega) (by omega) (by omega) (by omega)
  · exact Same_put (Same_put (Same_put (Same_put Same_rf (by unfold EuD; omega) (by unfold EuD; omega)) (by unfold EuD; omega) (by unfold EuD; omega)) (by unfold EuD; omega) (by unfold EuD; omega)) (by unfold EuD; omega) (by unfold EuD; omega)
  · refine ⟨e5, e6, e7, e8, hperm, ?_, ?_, ?_, ?_⟩
    · exact Row_ne (Row_ne (Row_ne (Row_put ro hsa ha.2.2.2.2) (by omega)) (by omega)) (by omega)
    · exact Row_ne (Row_ne (Row_put W1 hsb hb.2.2.2.2) (by omega)) (by omega)
    · exact Row_ne (Row_put F1 Sup_pz (Red_pz (by omega))) (by omega)
    · exact Row_put V1 (one_sup (by decide)) (one_red hP)
  · refine ⟨?_, ?_, ?_, ?_⟩
    · rw [rput_ne (by omega), rput_ne (by omega), rput_ne (by omega), rput_rv]; rfl
    · rw [rput_ne (by omega), rput_ne (by omega), rput_rv]; rfl
    · rw [rput_ne (by omega), rput_rv]; rfl
    · rw [rput_rv]; rfl
set_option maxRecDepth 100000 in
set_option maxHeartbeats 4000000 in
theorem c_X0_lastByFactor {g : GC} {p : Int} {sh : SH} {S : SS} {n o w f v : Nat} {Q : Option Value → GA → Nat → Prop} (hA : Alg p sh S) (hE : EuP p sh S o w f v) (hm : 0 < plen (rv S v) 64)
    (hq : ∀ q r : Int → Int, DivS p (rv S w) (rv S v) q r (plen (rv S w) 64) (plen (rv S v) 64) → Q (some (gr g 16)) (hp g sh (rput (rput S w r 64) 16 q 64)) n) : GCall g mX0_lastByFactor 5 0 0 [gr g 13] (hp g sh S) n Q := by
  obtain ⟨e5, e6, e7, e8, hperm, ro, rw_, rf, rv_⟩ := hE
  obtain ⟨m1, m2, m3, m4, d1, d2, d3, d4, d5, d6⟩ := hperm
  have h13 := hA.2.2.1
  have hLw := rw_.2.2.1
  have hLv := rv_.2.2.1
  refine GCall.of (by decide) (Nat.le_of_ble_eq_true rfl) (ls := [(0, _)]) rfl ?_
  refine S_aload_n (pc := 0) dX0_lastByFactor_0 rfl ?_
  refine S_aload_n (pc := 1) dX0_lastByFactor_1 rfl ?_
  refine S_getR (pc := 2) dX0_lastByFactor_2 fX0_32 (by assumption) rfl (by assumption) ?_
  refine S_aload_n (pc := 5) dX0_lastByFactor_5 rfl ?_
  refine S_getR (pc := 6) dX0_lastByFactor_6 fX0_38 (by assumption) rfl (by assumption) ?_
  refine S_callV (pc := 9) (ci := 0) (d2 := 4) (mc2 := 0) (ms2 := 0) (As := [_, _]) dX0_lastByFactor_9 kX0_reduce lkX0_95 (by assumption) rfl rfl rfl (Nat.le_of_ble_eq_true rfl) ⟨by decide, by decide⟩ (by decide) ?_
  refine c_X0_reduce hA rw_ rv_ (by omega) (by omega) (by omega) (by omega) (fun q r hD => ?_)
  rw [hLw, hLv] at hD
  refine G_aret (pc := 12) dX0_lastByFactor_12 rfl (by decide) ?_
  exact hq q r hD
