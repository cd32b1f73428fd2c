/-! Algebra: leastCofactor -/
/-- the last cofactor's REST by b over the GCD -/
noncomputable def cof (p : Int) (b O F : Int → Int) : Int → Int :=
  (pdiv p (pscl p O F) (pdiv p b O (plen b 64) (plen O 64)).1 (plen (pscl p O F) 64) (plen (pdiv p b O (plen b 64) (plen O 64)).1 64)).2
set_option maxRecDepth 100000 in
set_option maxHeartbeats 4000000 in
theorem c_X0_leastCofactor {g : GC} {p : Int} {sh : SH} {S : SS} {n a N b M : Nat} {Q : Option Value → GA → Nat → Prop} (hW : AlgW p sh S) (ha : Row p sh S a N) (hb : Row p sh S b M) (hna : ¬ AlgD a) (hnb : ¬ AlgD b)
    (hroom : ∀ t : Nat, (∀ s : Nat, s ≤ t → 0 < plen (eu p (rv S b) (rv S a) s).2.1 64) → t ≤ 62 ∧ plen (pdiv p (eu p (rv S b) (rv S a) t).1 (eu p (rv S b) (rv S a) t).2.1 (plen (eu p (rv S b) (rv S a) t).1 64) (plen (eu p (rv S b) (rv S a) t).2.1 64)).1 64 + plen (eu p (rv S b) (rv S a) t).2.2.2 64 ≤ 65)
    (hO : ∀ t : Nat, (∀ s : Nat, s < t → 0 < plen (eu p (rv S b) (rv S a) s).2.1 64) → plen (eu p (rv S b) (rv S a) t).2.1 64 ≤ 0 → 0 < plen (rv S b) 64 → 0 < plen (eu p (rv S b) (rv S a) t).1 64 ∧ 0 < plen (pdiv p (rv S b) (eu p (rv S b) (rv S a) t).1 (plen (rv S b) 64) (plen (eu p (rv S b) (rv S a) t).1 64)).1 64)
    (hq : ∀ (t : Nat) (S' : SS), AlgW p sh S' → Same AlgD S S' → (∀ s : Nat, s < t → 0 < plen (eu p (rv S b) (rv S a) s).2.1 64) → plen (eu p (rv S b) (rv S a) t).2.1 64 ≤ 0 → rv S' 18 = (if 0 < plen (rv S b) 64 then cof p (rv S b) (eu p (rv S b) (rv S a) t).1 (eu p (rv S b) (rv S a) t).2.2.1 else pscl p (eu p (rv S b) (rv S a) t).1 (eu p (rv S b) (rv S a) t).2.2.1) → Q (some (gr g 18)) (hp g sh S') n) :
    GCall g mX0_leastCofactor 6 0 0 [gr g 13, gr g a, gr g b] (hp g sh S) n Q := by
  obtain ⟨hA, o0, w0, f0, v0, hE⟩ := hW
  have hA' := hA
  obtain ⟨hP, hrs, h13, p0, p14, p16, p18, -, r14, r16, r18, -⟩ := hA'
  have hpb := hP.bd
  have h181 := r18.1.1
  have hrs1 := hrs.1
  have hbM := hb.2.1
  have hb64 : Sup (rv S b) 64 := Sup_more hb.2.2.2.1 (by omega)
  refine GCall.of (by decide) (Nat.le_of_ble_eq_true rfl) (ls := [(0, _), (1, _), (2, _)]) rfl ?_
  have hfin : ∀ (t : Nat) (S' : SS) (o w f v : Nat), Alg p sh S' → Same EuD S S' → EuP p sh S' o w f v → EuV S' o w f v (eu p (rv S b) (rv S a) t) → (∀ s : Nat, s < t → 0 < plen (eu p (rv S b) (rv S a) s).2.1 64) → plen (eu p (rv S b) (rv S a) t).2.1 64 ≤ 0 → G g mX0_leastCofactor 6 0 0 7 [(0, gr g 13), (1, gr g a), (2, gr g b)] [] (hp g sh S') n 0 0 Q := by
    intro t S' o w f v hA1 hS1 hE1 hV1 hs ht
    have hE1' := hE1
    obtain ⟨e5, e6, e7, e8, hperm, ro, rw_, rf, rv_⟩ := hE1'
    obtain ⟨v1, v2, v3, v4⟩ := hV1
    have hnb1 := nDE1 hnb hb hrs
    have b18 : b ≠ 18 := nD hnb (aD (by decide))
    have bw : b ≠ w := nD hnb (aW hperm).1
    have b16 : b ≠ 16 := nD hnb (aD (by decide))
    have hb' : Row p sh S' b M := Same_row hS1 (nDE hnb) (nDE hnb1) hb
    have evb : rv S' b = rv S b := Same_rv hS1 (nDE hnb1)
    have hb1 := hb.1.1
    have q18 := hA1.2.2.2.2.2.2.1
    have q16 := hA1.2.2.2.2.2.1
    have q0 := hA1.2.2.2.1
    have s18 := hA1.2.2.2.2.2.2.2.2.2.2.1
    have ho1 := ro.1.1
    have hw1 := rw_.1.1
    have hLo := ro.2.2.1
    have hLf := rf.2.2.1
    have hLb := hb'.2.2.1
    rw [evb, plen_eq (plen_bd _ 64).1 (by have := plen_bd (rv S b) M; have := plen_le (xs := rv S b) (N := 64) (L := plen (rv S b) M) (plen_bd _ _).1 (fun j h1 _ => Sup_len hb.2.2.2.1 h1); omega) (fun j h1 h2 => Sup_len hb64 h1) (by
      by_cases hz : plen (rv S b) 64 = 0
      · exact Or.inl hz
      · exact Or.inr (plen_lead (by have := plen_bd (rv S b) 64; omega)))] at hLb
    have hbo := plen_bd (rv S' o) 64
    have hbf := plen_bd (rv S' f) 64
    have hbb := plen_bd (rv S b) 64
    have hx := ro.2.2.2.2 (S'.1 o 1 - 1)
    have A2 : Alg p sh (rput S' 18 pz 64) := Alg_18 hA1 Sup_pz (Red_pz (by omega))
    have O2 : Row p sh (rput S' 18 pz 64) o 64 := Row_ne ro (pO hperm (by decide))
    have F2 : Row p sh (rput S' 18 pz 64) f 64 := Row_ne rf (pF hperm (by decide))
    have eL : (rput S' 18 pz 64).1 o 1 = S'.1 o 1 := rput_F (Or.inl (pO hperm (by decide)))
    have eLf : (rput S' 18 pz 64).1 f 1 = S'.1 f 1 := rput_F (Or.inl (pF hperm (by decide)))
    have eo : rv (rput S' 18 pz 64) o = rv S' o := rput_ne (pO hperm (by decide))
    have ef : rv (rput S' 18 pz 64) f = rv S' f := rput_ne (pF hperm (by decide))
    have hib := inv_bd (x := rv S' o (S'.1 o 1 - 1)) hP
    have hps := pscl_ok (O := rv S' o) (F := rv S' f) hP rf.2.2.2.1
    have A3 : Alg p sh (rput S' 18 (pscl p (rv S' o) (rv S' f)) 64) := Alg_18 hA1 hps.1 hps.2
    have B3 : Row p sh (rput S' 18 (pscl p (rv S' o) (rv S' f)) 64) b M := Row_ne hb' b18
    have W3 : Row p sh (rput S' 18 (pscl p (rv S' o) (rv S' f)) 64) w 64 := Row_ne rw_ (pW hperm (by decide))
    have O3 : Row p sh (rput S' 18 (pscl p (rv S' o) (rv S' f)) 64) o 64 := Row_ne ro (pO hperm (by decide))
    have eLb : (rput S' 18 (pscl p (rv S' o) (rv S' f)) 64).1 b 1 = plen (rv S b) 64 := by rw [rput_F (Or.inl b18)]; exact hLb
    have evb3 : rv (rput S' 18 (pscl p (rv S' o) (rv S' f)) 64) b = rv S b := by rw [rput_ne b18, evb]
    have B30 := B3.1
    have hbz : ∀ j : Int, (j < 0 ∨ plen (rv S b) 64 ≤ j) → rv S b j = 0 := fun j hj => hj.elim (fun h => hb64 j (Or.inl h)) (fun h => Sup_len hb64 h)
    have hend : 0 < plen (rv S b) 64 → G g mX0_leastCofactor 6 0 0 48 [(0, gr g 13), (1, gr g a), (2, gr g b)] [] (hp g sh (rput S' 18 (pscl p (rv S' o) (rv S' f)) 64)) n 0 0 Q := by
      intro hpos
      obtain ⟨hO1, hO2⟩ := hO t hs ht hpos
      rw [← v1] at hO1 hO2
      have hoz : ∀ j : Int, (j < 0 ∨ plen (rv S' o) 64 ≤ j) → rv S' o j = 0 := fun j hj => hj.elim (fun h => ro.2.2.2.1 j (Or.inl h)) (fun h => Sup_len ro.2.2.2.1 h)
      have W4 : Row p sh (rput (rput S' 18 (pscl p (rv S' o) (rv S' f)) 64) w (rv S b) 64) w 64 := Row_put W3 hb64 hb.2.2.2.2
      have O4 : Row p sh (rput (rput S' 18 (pscl p (rv S' o) (rv S' f)) 64) w (rv S b) 64) o 64 := Row_ne O3 (pOW hperm)
      have A4 : Alg p sh (rput (rput S' 18 (pscl p (rv S' o) (rv S' f)) 64) w (rv S b) 64) := Alg_ne A3 (pW hperm (by decide)) (pW hperm (by decide)) (pW hperm (by decide)) (pW hperm (by decide))
      have l4w : (rput (rput S' 18 (pscl p (rv S' o) (rv S' f)) 64) w (rv S b) 64).1 w 1 = plen (rv S b) 64 := rput_L
      have l4o : (rput (rput S' 18 (pscl p (rv S' o) (rv S' f)) 64) w (rv S b) 64).1 o 1 = plen (rv S' o) 64 := by rw [rput_F (Or.inl (pOW hperm)), rput_F (Or.inl (pO hperm (by decide))), hLo]
      have v4w : rv (rput (rput S' 18 (pscl p (rv S' o) (rv S' f)) 64) w (rv S b) 64) w = rv S b := rput_rv
      have v4o : rv (rput (rput S' 18 (pscl p (rv S' o) (rv S' f)) 64) w (rv S b) 64) o = rv S' o := by rw [rput_ne (pOW hperm), rput_ne (pO hperm (by decide))]
      have hmid : ∀ q r : Int → Int, DivS p (rv S b) (rv S' o) q r (plen (rv S b) 64) (plen (rv S' o) 64) → G g mX0_leastCofactor 6 0 0 72 [(0, gr g 13), (1, gr g a), (2, gr g b)] [gr g 16, gr g w] (hp g sh (rput (rput (rput (rput S' 18 (pscl p (rv S' o) (rv S' f)) 64) w (rv S b) 64) w r 64) 16 q 64)) n 0 0 Q := by
        intro q r hD
        obtain ⟨eq, er⟩ := DivS_uniq hP hO1 ro.2.2.2.2 hoz (plen_lead hO1) hD (pdiv_S hP hO1 hb.2.2.2.2 hbz ro.2.2.2.2 hoz (plen_lead hO1))
        have hqs : Sup q 64 := fun j hj => hD.2.2.2.2 j (by omega)
        have hrs' : Sup r 64 := fun j hj => hD.2.2.2.1 j (by omega)
        rw [rput_rput]
        have A5 : Alg p sh (rput (rput (rput S' 18 (pscl p (rv S' o) (rv S' f)) 64) w r 64) 16 q 64) := Alg_16 (Alg_ne A3 (pW hperm (by decide)) (pW hperm (by decide)) (pW hperm (by decide)) (pW hperm (by decide))) hqs hD.1
        have W5 : Row p sh (rput (rput (rput S' 18 (pscl p (rv S' o) (rv S' f)) 64) w r 64) 16 q 64) w 64 := Row_ne (Row_put W3 hrs' hD.2.1) (pW hperm (by decide))
        have A6 : Alg p sh (rput (rput (rput (rput S' 18 (pscl p (rv S' o) (rv S' f)) 64) w r 64) 16 q 64) w q 64) := Alg_ne A5 (pW hperm (by decide)) (pW hperm (by decide)) (pW hperm (by decide)) (pW hperm (by decide))
        have W6 : Row p sh (rput (rput (rput (rput S' 18 (pscl p (rv S' o) (rv S' f)) 64) w r 64) 16 q 64) w q 64) w 64 := Row_put W5 hqs hD.1
        have R6 := A6.2.2.2.2.2.2.2.2.2.2.1
        have l6w : (rput (rput (rput (rput S' 18 (pscl p (rv S' o) (rv S' f)) 64) w r 64) 16 q 64) w q 64).1 w 1 = plen q 64 := rput_L
        have l618 : (rput (rput (rput (rput S' 18 (pscl p (rv S' o) (rv S' f)) 64) w r 64) 16 q 64) w q 64).1 18 1 = plen (pscl p (rv S' o) (rv S' f)) 64 := by rw [rput_F (Or.inl (Ne.symm (pW hperm (by decide)))), rput_F (Or.inl (by decide)), rput_F (Or.inl (Ne.symm (pW hperm (by decide))))]; exact rput_L
        have v6w : rv (rput (rput (rput (rput S' 18 (pscl p (rv S' o) (rv S' f)) 64) w r 64) 16 q 64) w q 64) w = q := rput_rv
        have v618 : rv (rput (rput (rput (rput S' 18 (pscl p (rv S' o) (rv S' f)) 64) w r 64) 16 q 64) w q 64) 18 = pscl p (rv S' o) (rv S' f) := by rw [rput_ne (Ne.symm (pW hperm (by decide))), rput_ne (by decide), rput_ne (Ne.symm (pW hperm (by decide))), rput_rv]
        have hq0 : 0 < plen q 64 := by rw [eq]; exact hO2
        have hqz : ∀ j : Int, (j < 0 ∨ plen q 64 ≤ j) → q j = 0 := fun j hj => hj.elim (fun h => hqs j (Or.inl h)) (fun h => Sup_len hqs h)
        have hpsz : ∀ j : Int, (j < 0 ∨ plen (pscl p (rv S' o) (rv S' f)) 64 ≤ j) → pscl p (rv S' o) (rv S' f) j = 0 := fun j hj => hj.elim (fun h => hps.1 j (Or.inl h)) (fun h => Sup_len hps.1 h)
        refine S_callV (pc := 72) (ci := 4) (d2 := 3) (mc2 := 0) (ms2 := 0) (As := [_]) dX0_leastCofactor_72 kX4_copy lkX0_91 (by assumption) rfl rfl rfl (Nat.le_of_ble_eq_true rfl) ⟨by decide, by decide⟩ (by decide) ?_
        refine c_X4_copy W5 A5.2.2.2.2.2.2.2.2.2.1 (Ne.symm (pW hperm (by decide))) (by omega) ?_
        rw [rput_rv, clip_id hqs]
        show G _ _ _ _ _ _ _ _ _ _ _ _ _
        refine S_aload_n (pc := 75) dX0_leastCofactor_75 rfl ?_
        refine S_aload_n (pc := 76) dX0_leastCofactor_76 rfl ?_
        refine S_getR (pc := 77) dX0_leastCofactor_77 fX0_23 (by assumption) rfl (by assumption) ?_
        refine S_aload_n (pc := 80) dX0_leastCofactor_80 rfl ?_
        refine S_getR (pc := 81) dX0_leastCofactor_81 fX0_32 (by assumption) rfl (by assumption) ?_
        refine S_callV (pc := 84) (ci := 0) (d2 := 4) (mc2 := 0) (ms2 := 0) (As := [_, _]) dX0_leastCofactor_84 kX0_reduce lkX0_95 (by assumption) rfl rfl rfl (Nat.le_of_ble_eq_true rfl) ⟨by decide, by decide⟩ (by decide) ?_
        refine c_X0_reduce A6 R6 W6 (pW hperm (by decide)) (by decide) (pW hperm (by decide)) (by rw [l6w]; exact hq0) (fun q2 r2 hD2 => ?_)
        rw [v618, v6w, l618, l6w] at hD2
        obtain ⟨eq2, er2⟩ := DivS_uniq hP hq0 hD.1 hqz (plen_lead hq0) hD2 (pdiv_S hP hq0 hps.2 hpsz hD.1 hqz (plen_lead hq0))
        have hbps := plen_bd (pscl p (rv S' o) (rv S' f)) 64
        have hbq := plen_bd q 64
        have hq2s : Sup q2 64 := fun j hj => hD2.2.2.2.2 j (by omega)
        have hr2s : Sup r2 64 := fun j hj => hD2.2.2.2.1 j (by omega)
        refine G_pop (pc := 87) dX0_leastCofactor_87 rfl ?_
        refine S_aload_n (pc := 88) dX0_leastCofactor_88 rfl ?_
        refine S_getR (pc := 89) dX0_leastCofactor_89 fX0_23 (by assumption) rfl (by assumption) ?_
        refine G_aret (pc := 92) dX0_leastCofactor_92 rfl (by decide) ?_
        refine hq t _ ⟨Alg_16 (Alg_18 A6 hr2s hD2.2.1) hq2s hD2.1, o, w, f, v, EuP_ne (EuP_ne ?_ (pAll hperm (by decide))) (pAll hperm (by decide))⟩ ?_ hs ht ?_
        · refine ⟨e5, e6, e7, e8, hperm, ?_, W6, ?_, ?_⟩
          · exact Row_ne (Row_ne (Row_ne O3 (pOW hperm)) (pO hperm (by decide))) (pOW hperm)
          · exact Row_ne (Row_ne (Row_ne (Row_ne rf (pF hperm (by decide))) (Ne.symm (pWF hperm))) (pF hperm (by decide))) (Ne.symm (pWF hperm))
          · exact Row_ne (Row_ne (Row_ne (Row_ne rv_ (pV hperm (by decide))) (Ne.symm (pWV hperm))) (pV hperm (by decide))) (Ne.symm (pWV hperm))
        · exact Same_put (Same_put (Same_put (Same_put (Same_put (Same_put (Same_mono hS1 (fun _ => EuD_Alg)) (aD (by decide)) (aD (by decide))) (aW hperm).1 (aW hperm).2) (aD (by decide)) (aD (by decide))) (aW hperm).1 (aW hperm).2) (aD (by decide)) (aD (by decide))) (aD (by decide)) (aD (by decide))
        · rw [if_pos hpos, rput_ne (by decide), rput_rv, er2, eq, v1, v3]
          rfl
      refine S_aload_n (pc := 48) dX0_leastCofactor_48 rfl ?_
      refine S_getR (pc := 49) dX0_leastCofactor_49 fX0_32 (by assumption) rfl (by assumption) ?_
      refine S_aload_n (pc := 52) dX0_leastCofactor_52 rfl ?_
      refine S_callV (pc := 53) (ci := 4) (d2 := 3) (mc2 := 0) (ms2 := 0) (As := [_]) dX0_leastCofactor_53 kX4_copy lkX0_91 (by assumption) rfl rfl rfl (Nat.le_of_ble_eq_true rfl) ⟨by decide, by decide⟩ (by decide) ?_
      refine c_X4_copy W3 B3 bw (by omega) ?_
      rw [evb3, clip_id hb64]
      show G _ _ _ _ _ _ _ _ _ _ _ _ _
      refine S_aload_n (pc := 56) dX0_leastCofactor_56 rfl ?_
      refine S_getR (pc := 57) dX0_leastCofactor_57 fX0_32 (by assumption) rfl (by assumption) ?_
      refine S_aload_n (pc := 60) dX0_leastCofactor_60 rfl ?_
      refine S_aload_n (pc := 61) dX0_leastCofactor_61 rfl ?_
      refine S_getR (pc := 62) dX0_leastCofactor_62 fX0_32 (by assumption) rfl (by assumption) ?_
      refine S_aload_n (pc := 65) dX0_leastCofactor_65 rfl ?_
      refine S_getR (pc := 66) dX0_leastCofactor_66 fX0_29 (by assumption) rfl (by assumption) ?_
      refine S_callV (pc := 69) (ci := 0) (d2 := 4) (mc2 := 0) (ms2 := 0) (As := [_, _]) dX0_leastCofactor_69 kX0_reduce lkX0_95 (by assumption) rfl rfl rfl (Nat.le_of_ble_eq_true rfl) ⟨by decide, by decide⟩ (by decide) ?_
      refine c_X0_reduce A4 W4 O4 (pOW hperm) (pW hperm (by decide)) (pO hperm (by decide)) (by rw [l4o]; exact hO1) (fun q r hD => ?_)
      rw [v4w, v4o, l4w, l4o] at hD
      exact hmid q r hD
    refine S_aload_n (pc := 7) dX0_leastCofactor_7 rfl ?_
    refine S_getR (pc := 8) dX0_leastCofactor_8 fX0_23 (by assumption) rfl (by assumption) ?_
    refine S_callV (pc := 11) (ci := 4) (d2 := 1) (mc2 := 0) (ms2 := 0) (As := []) dX0_leastCofactor_11 kX4_wipe lkX0_63 (by assumption) rfl rfl rfl (Nat.le_of_ble_eq_true rfl) ⟨by decide, by decide⟩ (by decide) ?_
    refine c_X4_wipe (by assumption) ?_
    show G _ _ _ _ _ _ _ _ _ _ _ _ _
    refine S_aload_n (pc := 14) dX0_leastCofactor_14 rfl ?_
    refine S_aload_n (pc := 15) dX0_leastCofactor_15 rfl ?_
    refine S_getR (pc := 16) dX0_leastCofactor_16 fX0_23 (by assumption) rfl (by assumption) ?_
    refine S_aload_n (pc := 19) dX0_leastCofactor_19 rfl ?_
    refine S_getR (pc := 20) dX0_leastCofactor_20 fX0_41 (by assumption) rfl (by assumption) ?_
    refine S_aload_n (pc := 23) dX0_leastCofactor_23 rfl ?_
    refine S_getR (pc := 24) dX0_leastCofactor_24 fX0_29 (by assumption) rfl (by assumption) ?_
    refine S_callV (pc := 27) (ci := 4) (d2 := 2) (mc2 := 0) (ms2 := 0) (As := []) dX0_leastCofactor_27 kX4_lead lkX0_79 (by assumption) rfl rfl rfl (Nat.le_of_ble_eq_true rfl) ⟨by decide, by decide⟩ (by decide) ?_
    refine c_X4_lead O2 ?_
    rw [eL, eo]
    show G _ _ _ _ _ _ _ _ _ _ _ _ _
    refine S_callV (pc := 30) (ci := 3) (d2 := 3) (mc2 := 0) (ms2 := 0) (As := [_]) dX0_leastCofactor_30 kX3_inverse lkX0_82 (by assumption) rfl rfl rfl (Nat.le_of_ble_eq_true rfl) ⟨by decide, by decide⟩ (by decide) ?_
    refine c_X3_inverse A2.2.1 hP hx ?_
    show G _ _ _ _ _ _ _ _ _ _ _ _ _
    refine S_aload_n (pc := 33) dX0_leastCofactor_33 rfl ?_
    refine S_getR (pc := 34) dX0_leastCofactor_34 fX0_35 (by assumption) rfl (by assumption) ?_
    refine G_iconst (pc := 37) dX0_leastCofactor_37 ?_
    refine S_callV (pc := 38) (ci := 0) (d2 := 2) (mc2 := 0) (ms2 := 0) (As := [_, _, _, _]) dX0_leastCofactor_38 kX0_addMultiple lkX0_87 (by assumption) rfl rfl rfl (Nat.le_of_ble_eq_true rfl) ⟨by decide, by decide⟩ (by decide) ?_
    refine c_X0_addMultiple hP A2.2.1 h13 q0 A2.2.2.2.2.2.2.2.2.2.2.1 F2 (pF hperm (by decide)) (by omega) (by omega) (by rw [eLf]; omega) ?_
    rw [rput_rv, rput_rput, ef, show padd p pz (inv p (rv S' o (S'.1 o 1 - 1))) (rv S' f) 0 = pscl p (rv S' o) (rv S' f) by rw [hLo]; rfl]
    show G _ _ _ _ _ _ _ _ _ _ _ _ _
    refine S_aload_n (pc := 41) dX0_leastCofactor_41 rfl ?_
    refine S_callV (pc := 42) (ci := 4) (d2 := 1) (mc2 := 0) (ms2 := 0) (As := []) dX0_leastCofactor_42 kX4_length lkX0_45 (by assumption) rfl rfl rfl (Nat.le_of_ble_eq_true rfl) ⟨by decide, by decide⟩ (by decide) ?_
    refine c_X4_length B30 ?_
    rw [eLb]
    show G _ _ _ _ _ _ _ _ _ _ _ _ _
    refine G_if_le (pc := 45) 88 dX0_leastCofactor_45 rfl (by omega) (fun c45 => ?_) (fun c45 => ?_)
    · skip
      refine S_aload_n (pc := 88) dX0_leastCofactor_88 rfl ?_
      refine S_getR (pc := 89) dX0_leastCofactor_89 fX0_23 (by assumption) rfl (by assumption) ?_
      refine G_aret (pc := 92) dX0_leastCofactor_92 rfl (by decide) ?_
      refine hq t _ ⟨A3, o, w, f, v, EuP_ne hE1 (pAll hperm (by decide))⟩ (Same_put (Same_mono hS1 (fun _ => EuD_Alg)) (aD (by decide)) (aD (by decide))) hs ht ?_
      rw [if_neg (by omega), rput_rv, v1, v3]
    · skip
      exact hend (by omega)
  refine S_aload_n (pc := 0) dX0_leastCofactor_0 rfl ?_
  refine S_aload_n (pc := 1) dX0_leastCofactor_1 rfl ?_
  refine S_aload_n (pc := 2) dX0_leastCofactor_2 rfl ?_
  refine G_iconst (pc := 3) dX0_leastCofactor_3 ?_
  refine S_callV (pc := 4) (ci := 0) (d2 := 5) (mc2 := 0) (ms2 := 0) (As := [_, _, _]) dX0_leastCofactor_4 kX0_euclid lkX0_102 (by assumption) rfl rfl rfl (Nat.le_of_ble_eq_true rfl) ⟨by decide, by decide⟩ (by decide) ?_
  refine c_X0_euclid hA hE hb ha (fun z => hnb (EuD_Alg z)) (fun z => hna (EuD_Alg z)) (by omega) hroom (fun t S' o w f v h1 h2 h3 h4 h5 h6 => ?_)
  exact hfin t S' o w f v h1 h2 h3 h4 h5 h6
