/-! the Model: power, areUnlike, isSheet, over, isWay -/
set_option maxRecDepth 100000 in
set_option maxHeartbeats 4000000 in
theorem l_X10_power {g : GC} {p m e : Int} {sh : SH} {S : SS} {n : Nat} {Q : Option Value → GA → Nat → Prop} (hW : MdW p sh S) (hV : MpW p sh S m) (he : 0 ≤ e ∧ e ≤ 999) (hq : Q (some (.int (iI (smd p (S.2.1 105) (S.2.1 106) e.toNat m.toNat)))) (hp g sh S) n) : ∀ (k t : Nat), t + k = m → G g mX10_power 2 0 0 18 [(3, .int (iI t)), (2, .int (iI (smd p (S.2.1 105) (S.2.1 106) e.toNat t))), (0, gr g 96), (1, .int (iI e))] [] (hp g sh S) n 0 0 Q := by
  have hW' := hW
  obtain ⟨hP, h96, hp1, p2, h97, hred⟩ := hW'
  have hV' := hV
  obtain ⟨q30, q31, h105, h106, hm, hmb, r105, r106⟩ := hV'
  have hpb := hP.bd
  intro k
  induction k with
  | zero =>
    intro t ht
    refine G_iload_n (pc := 18) dX10_power_18 rfl ?_
    refine S_aload_n (pc := 19) dX10_power_19 rfl ?_
    refine S_getI (pc := 20) dX10_power_20 fX10_284 (by assumption) rfl ?_
    rw [hm]
    refine G_icmp_ge_t (pc := 23) 58 dX10_power_23 rfl (by omega) (by omega) ?_
    refine G_iload_n (pc := 58) dX10_power_58 rfl ?_
    refine G_iret (pc := 59) dX10_power_59 rfl (by decide) ?_
    rw [show t = m.toNat by omega]
    exact hq
  | succ k ih =>
    intro t ht
    have h1 := r105 t
    have h2 := r106 t
    have hs := smd_bd (p := p) (xs := S.2.1 105) (vs := S.2.1 106) (e := e.toNat) (by omega) t
    have hpw := em_bd (z := S.2.1 105 t ^ e.toNat) (p := p) (by omega)
    have hmm := mul_bd h2 hpw hpb.2
    have hn := ih (t + 1) (by omega)
    unfold smd at hn
    rw [show ((t + 1 : Nat) : Int) = t + 1 by omega] at hn
    refine G_iload_n (pc := 18) dX10_power_18 rfl ?_
    refine S_aload_n (pc := 19) dX10_power_19 rfl ?_
    refine S_getI (pc := 20) dX10_power_20 fX10_284 (by assumption) rfl ?_
    rw [hm]
    refine G_icmp_ge_f (pc := 23) 58 dX10_power_23 rfl (by omega) (by omega) ?_
    refine G_iload_n (pc := 26) dX10_power_26 rfl ?_
    refine S_aload_n (pc := 27) dX10_power_27 rfl ?_
    refine S_getR (pc := 28) dX10_power_28 fX10_42 (by assumption) rfl (by assumption) ?_
    refine G_iload_n (pc := 31) dX10_power_31 rfl ?_
    refine S_iald (pc := 32) dX10_power_32 (by assumption) (by omega) ?_
    refine S_aload_n (pc := 33) dX10_power_33 rfl ?_
    refine S_aload_n (pc := 34) dX10_power_34 rfl ?_
    refine S_getR (pc := 35) dX10_power_35 fX10_39 (by assumption) rfl (by assumption) ?_
    refine G_iload_n (pc := 38) dX10_power_38 rfl ?_
    refine S_iald (pc := 39) dX10_power_39 (by assumption) (by omega) ?_
    refine G_iload_n (pc := 40) dX10_power_40 rfl ?_
    refine S_callV (pc := 41) (ci := 10) (d2 := 1) (mc2 := 0) (ms2 := 0) (As := [_, _]) dX10_power_41 kX10_raised lkX10_82 (by assumption) rfl rfl rfl (Nat.le_of_ble_eq_true rfl) ⟨by decide, by decide⟩ (by decide) ?_
    refine c_X10_raised hW h1 (by omega) ?_
    show G _ _ _ _ _ _ _ _ _ _ _ _ _
    refine G_imul (pc := 44) dX10_power_44 ?_
    refine G_iadd (pc := 45) dX10_power_45 ?_
    refine S_aload_n (pc := 46) dX10_power_46 rfl ?_
    refine S_getI (pc := 47) dX10_power_47 fX10_64 (by assumption) rfl ?_
    rw [hp1]
    refine G_iremP (pc := 50) dX10_power_50 (by omega) ?_
    refine G_istore_n (pc := 51) (ls' := [(2, _), (3, _), (0, _), (1, _)]) dX10_power_51 (by decide) rfl ?_
    refine G_iinc (pc := 52) (ls' := [(3, _), (2, _), (0, _), (1, _)]) dX10_power_52 rfl (by decide) rfl ?_
    refine G_goto (pc := 55) 18 dX10_power_55 rfl ?_
    exact hn
set_option maxRecDepth 100000 in
set_option maxHeartbeats 4000000 in
theorem c_X10_power {g : GC} {p m e : Int} {sh : SH} {S : SS} {n : Nat} {Q : Option Value → GA → Nat → Prop} (hW : MdW p sh S) (hV : MpW p sh S m) (he : -2147483648 ≤ e ∧ e ≤ 2147483647) (h0 : ¬ (0 ≤ e ∧ e ≤ 999) → Q (some (.int (iI (-2)))) (hp g sh S) n) (hq : (0 ≤ e ∧ e ≤ 999) → Q (some (.int (iI (smd p (S.2.1 105) (S.2.1 106) e.toNat m.toNat)))) (hp g sh S) n) : GCall g mX10_power 2 0 0 [gr g 96, .int (iI e)] (hp g sh S) n Q := by
  have hmb := hV.2.2.2.2.2.1
  have h96 := hW.2.1
  refine GCall.of (by decide) (Nat.le_of_ble_eq_true rfl) (ls := [(0, _), (1, _)]) rfl ?_
  refine G_iload_n (pc := 0) dX10_power_0 rfl ?_
  refine G_iconst (pc := 1) dX10_power_1 ?_
  refine G_sipush (pc := 2) dX10_power_2 rfl ?_
  refine G_callS (pc := 5) (d2 := 1) (mc2 := 0) (ms2 := 0) (As := [_, _, _]) dX10_power_5 kX10_in lkX10_86 rfl rfl (Nat.le_of_ble_eq_true rfl) ⟨by decide, by decide⟩ (by decide) ?_
  refine c_X10_in (by omega) (fun w5 => ?_) (fun w5 => ?_)
  · show G _ _ _ _ _ _ _ _ _ _ _ _ _
    refine G_if_ne_t (pc := 8) 14 dX10_power_8 rfl (by decide) (by decide) ?_
    refine G_iconst (pc := 14) dX10_power_14 ?_
    refine G_istore_n (pc := 15) (ls' := [(2, _), (0, _), (1, _)]) dX10_power_15 (by decide) rfl ?_
    refine G_iconst (pc := 16) dX10_power_16 ?_
    refine G_istore_n (pc := 17) (ls' := [(3, _), (2, _), (0, _), (1, _)]) dX10_power_17 (by decide) rfl ?_
    exact l_X10_power hW hV (by omega) (hq (by omega)) m.toNat 0 (by omega)
  · show G _ _ _ _ _ _ _ _ _ _ _ _ _
    refine G_if_ne_f (pc := 8) 14 dX10_power_8 rfl (by decide) (by decide) ?_
    refine G_bipush (pc := 11) dX10_power_11 rfl ?_
    refine G_iret (pc := 13) dX10_power_13 rfl (by decide) ?_
    exact h0 (by omega)
set_option maxRecDepth 100000 in
set_option maxHeartbeats 4000000 in
theorem l_X10_areUnlikeI {g : GC} {p m i : Int} {sh : SH} {S : SS} {n : Nat} {Q : Option Value → GA → Nat → Prop} (hW : MdW p sh S) (hV : MpW p sh S m) (hi : 0 ≤ i ∧ i < m)
    (h0 : (∃ j : Int, 0 ≤ j ∧ j < i ∧ S.2.1 105 i = S.2.1 105 j) → Q (some (.int (iI 0))) (hp g sh S) n) (K : (∀ j : Int, 0 ≤ j → j < i → S.2.1 105 i ≠ S.2.1 105 j) → G g mX10_areUnlike 1 0 0 40 [(1, .int (iI i)), (0, gr g 96)] [] (hp g sh S) n 0 0 Q) :
    ∀ (k : Nat) (t : Int), t + k = i → 0 ≤ t → (∀ j : Int, 0 ≤ j → j < t → S.2.1 105 i ≠ S.2.1 105 j) → G g mX10_areUnlike 1 0 0 12 [(2, .int (iI t)), (1, .int (iI i)), (0, gr g 96)] [] (hp g sh S) n 0 0 Q := by
  obtain ⟨hP, h96, hp1, p2, h97, hred⟩ := hW
  obtain ⟨q30, q31, h105, h106, hm, hmb, r105, r106⟩ := hV
  intro k
  induction k with
  | zero =>
    intro t ht h00 hn
    refine G_iload_n (pc := 12) dX10_areUnlike_12 rfl ?_
    refine G_iload_n (pc := 13) dX10_areUnlike_13 rfl ?_
    refine G_icmp_ge_t (pc := 14) 40 dX10_areUnlike_14 rfl (by omega) (by omega) ?_
    refine G_ls (ls' := [(1, _), (0, _)]) (lsub_c rfl (lsub_c rfl lsub_n)) ?_
    exact K (fun j h1 h2 => hn j h1 (by omega))
  | succ k ih =>
    intro t ht h00 hn
    have hpb := hP.bd
    have ha := r105 i
    have hb := r105 t
    refine G_iload_n (pc := 12) dX10_areUnlike_12 rfl ?_
    refine G_iload_n (pc := 13) dX10_areUnlike_13 rfl ?_
    refine G_icmp_ge_f (pc := 14) 40 dX10_areUnlike_14 rfl (by omega) (by omega) ?_
    refine S_aload_n (pc := 17) dX10_areUnlike_17 rfl ?_
    refine S_getR (pc := 18) dX10_areUnlike_18 fX10_39 (by assumption) rfl (by assumption) ?_
    refine G_iload_n (pc := 21) dX10_areUnlike_21 rfl ?_
    refine S_iald (pc := 22) dX10_areUnlike_22 (by assumption) (by omega) ?_
    refine S_aload_n (pc := 23) dX10_areUnlike_23 rfl ?_
    refine S_getR (pc := 24) dX10_areUnlike_24 fX10_39 (by assumption) rfl (by assumption) ?_
    refine G_iload_n (pc := 27) dX10_areUnlike_27 rfl ?_
    refine S_iald (pc := 28) dX10_areUnlike_28 (by assumption) (by omega) ?_
    refine G_icmp_ne (pc := 29) 34 dX10_areUnlike_29 rfl (by omega) (fun c29 => ?_) (fun c29 => ?_)
    · skip
      refine G_iinc (pc := 34) (ls' := [(2, _), (1, _), (0, _)]) dX10_areUnlike_34 rfl (by decide) rfl ?_
      refine G_goto (pc := 37) 12 dX10_areUnlike_37 rfl ?_
      exact ih (t + 1) (by omega) (by omega) (fun j h1 h2 => if e : j = t then (by rw [e]; exact c29) else hn j h1 (by omega))
    · skip
      refine G_iconst (pc := 32) dX10_areUnlike_32 ?_
      refine G_zret (pc := 33) dX10_areUnlike_33 rfl nar_z0 (by decide) ?_
      exact h0 ⟨t, h00, by omega, by omega⟩
set_option maxRecDepth 100000 in
set_option maxHeartbeats 4000000 in
theorem l_X10_areUnlike {g : GC} {p m : Int} {sh : SH} {S : SS} {n : Nat} {Q : Option Value → GA → Nat → Prop} (hW : MdW p sh S) (hV : MpW p sh S m)
    (h0 : (∃ i : Int, 0 ≤ i ∧ i < m ∧ ∃ j : Int, 0 ≤ j ∧ j < i ∧ S.2.1 105 i = S.2.1 105 j) → Q (some (.int (iI 0))) (hp g sh S) n) (h1 : (∀ i : Int, 0 ≤ i → i < m → ∀ j : Int, 0 ≤ j → j < i → S.2.1 105 i ≠ S.2.1 105 j) → Q (some (.int (iI 1))) (hp g sh S) n) :
    ∀ (k : Nat) (t : Int), t + k = m → 0 ≤ t → (∀ i : Int, 0 ≤ i → i < t → ∀ j : Int, 0 ≤ j → j < i → S.2.1 105 i ≠ S.2.1 105 j) → G g mX10_areUnlike 1 0 0 2 [(1, .int (iI t)), (0, gr g 96)] [] (hp g sh S) n 0 0 Q := by
  have hW' := hW
  obtain ⟨hP, h96, hp1, p2, h97, hred⟩ := hW'
  have hV' := hV
  obtain ⟨q30, q31, h105, h106, hm, hmb, r105, r106⟩ := hV'
  intro k
  induction k with
  | zero =>
    intro t ht h00 hn
    refine G_iload_n (pc := 2) dX10_areUnlike_2 rfl ?_
    refine S_aload_n (pc := 3) dX10_areUnlike_3 rfl ?_
    refine S_getI (pc := 4) dX10_areUnlike_4 fX10_284 (by assumption) rfl ?_
    rw [hm]
    refine G_icmp_ge_t (pc := 7) 46 dX10_areUnlike_7 rfl (by omega) (by omega) ?_
    refine G_iconst (pc := 46) dX10_areUnlike_46 ?_
    refine G_zret (pc := 47) dX10_areUnlike_47 rfl nar_z1 (by decide) ?_
    exact h1 (fun i g1 g2 => hn i g1 (by omega))
  | succ k ih =>
    intro t ht h00 hn
    have K : (∀ j : Int, 0 ≤ j → j < t → S.2.1 105 t ≠ S.2.1 105 j) → G g mX10_areUnlike 1 0 0 40 [(1, .int (iI t)), (0, gr g 96)] [] (hp g sh S) n 0 0 Q := by
      intro hj
      refine G_iinc (pc := 40) (ls' := [(1, _), (0, _)]) dX10_areUnlike_40 rfl (by decide) rfl ?_
      refine G_goto (pc := 43) 2 dX10_areUnlike_43 rfl ?_
      exact ih (t + 1) (by omega) (by omega) (fun i g1 g2 => if e : i = t then (by rw [e]; exact hj) else hn i g1 (by omega))
    refine G_iload_n (pc := 2) dX10_areUnlike_2 rfl ?_
    refine S_aload_n (pc := 3) dX10_areUnlike_3 rfl ?_
    refine S_getI (pc := 4) dX10_areUnlike_4 fX10_284 (by assumption) rfl ?_
    rw [hm]
    refine G_icmp_ge_f (pc := 7) 46 dX10_areUnlike_7 rfl (by omega) (by omega) ?_
    refine G_iconst (pc := 10) dX10_areUnlike_10 ?_
    refine G_istore_n (pc := 11) (ls' := [(2, _), (1, _), (0, _)]) dX10_areUnlike_11 (by decide) rfl ?_
    exact l_X10_areUnlikeI hW hV (by omega) (fun ⟨j, a1, a2, a3⟩ => h0 ⟨t, h00, by omega, j, a1, a2, a3⟩) K t.toNat 0 (by omega) (by omega) (fun j _ _ => by omega)
set_option maxRecDepth 100000 in
set_option maxHeartbeats 4000000 in
theorem c_X10_areUnlike {g : GC} {p m : Int} {sh : SH} {S : SS} {n : Nat} {Q : Option Value → GA → Nat → Prop} (hW : MdW p sh S) (hV : MpW p sh S m)
    (h0 : (∃ i : Int, 0 ≤ i ∧ i < m ∧ ∃ j : Int, 0 ≤ j ∧ j < i ∧ S.2.1 105 i = S.2.1 105 j) → Q (some (.int (iI 0))) (hp g sh S) n) (h1 : (∀ i : Int, 0 ≤ i → i < m → ∀ j : Int, 0 ≤ j → j < i → S.2.1 105 i ≠ S.2.1 105 j) → Q (some (.int (iI 1))) (hp g sh S) n) :
    GCall g mX10_areUnlike 1 0 0 [gr g 96] (hp g sh S) n Q := by
  have hmb := hV.2.2.2.2.2.1
  refine GCall.of (by decide) (Nat.le_of_ble_eq_true rfl) (ls := [(0, _)]) rfl ?_
  refine G_iconst (pc := 0) dX10_areUnlike_0 ?_
  refine G_istore_n (pc := 1) (ls' := [(1, _), (0, _)]) dX10_areUnlike_1 (by decide) rfl ?_
  exact l_X10_areUnlike hW hV h0 h1 m.toNat 0 (by omega) (by omega) (fun i _ _ => by omega)
set_option maxRecDepth 100000 in
set_option maxHeartbeats 4000000 in
theorem c_X10_isSheet {g : GC} {h : GA} {n : Nat} {v : Int} {Q : Option Value → GA → Nat → Prop} (hr : -2147483648 ≤ v ∧ v ≤ 2147483647) (h1 : 0 ≤ v ∧ v < 4 → Q (some (.int (iI 1))) h n) (h0 : ¬ (0 ≤ v ∧ v < 4) → Q (some (.int (iI 0))) h n) : GCall g mX10_isSheet 2 0 0 [.int (iI v)] h n Q := by
  refine GCall.of (by decide) (Nat.le_of_ble_eq_true rfl) (ls := [(0, _)]) rfl ?_
  refine G_iload_n (pc := 0) dX10_isSheet_0 rfl ?_
  refine G_iconst (pc := 1) dX10_isSheet_1 ?_
  refine G_iconst (pc := 2) dX10_isSheet_2 ?_
  refine G_callS (pc := 3) (d2 := 1) (mc2 := 0) (ms2 := 0) (As := [_, _, _]) dX10_isSheet_3 kX10_in lkX10_86 rfl rfl (Nat.le_of_ble_eq_true rfl) ⟨by decide, by decide⟩ (by decide) ?_
  refine c_X10_in (by omega) (fun w3 => ?_) (fun w3 => ?_)
  · show G _ _ _ _ _ _ _ _ _ _ _ _ _
    refine G_zret (pc := 6) dX10_isSheet_6 rfl nar_z1 (by decide) ?_
    first | exact h1 (by omega) | exact h0 (by omega)
  · show G _ _ _ _ _ _ _ _ _ _ _ _ _
    refine G_zret (pc := 6) dX10_isSheet_6 rfl nar_z0 (by decide) ?_
    first | exact h1 (by omega) | exact h0 (by omega)
def ovr (k : Int) : Int := if k = 0 then -1 else if k = 2 then 1 else if k = 4 then 2 else if k = 5 then 3 else 0
set_option maxRecDepth 100000 in
set_option maxHeartbeats 4000000 in
theorem c_X10_over {g : GC} {h : GA} {n : Nat} {k : Int} {Q : Option Value → GA → Nat → Prop} (hr : -2147483648 ≤ k ∧ k ≤ 2147483647) (hq : Q (some (.int (iI (ovr k)))) h n) : GCall g mX10_over 1 0 0 [.int (iI k)] h n Q := by
  unfold ovr at hq
  refine GCall.of (by decide) (Nat.le_of_ble_eq_true rfl) (ls := [(0, _)]) rfl ?_
  refine G_iload_n (pc := 0) dX10_over_0 rfl ?_
  refine G_if_ne (pc := 1) 8 dX10_over_1 rfl (by omega) (fun c1 => ?_) (fun c1 => ?_)
  · skip
    refine G_iload_n (pc := 8) dX10_over_8 rfl ?_
    refine G_iconst (pc := 9) dX10_over_9 ?_
    refine G_icmp_ne (pc := 10) 17 dX10_over_10 rfl (by omega) (fun c10 => ?_) (fun c10 => ?_)
    · skip
      refine G_iload_n (pc := 17) dX10_over_17 rfl ?_
      refine G_iconst (pc := 18) dX10_over_18 ?_
      refine G_icmp_ne (pc := 19) 26 dX10_over_19 rfl (by omega) (fun c19 => ?_) (fun c19 => ?_)
      · skip
        refine G_iload_n (pc := 26) dX10_over_26 rfl ?_
        refine G_iconst (pc := 27) dX10_over_27 ?_
        refine G_icmp_ne (pc := 28) 35 dX10_over_28 rfl (by omega) (fun c28 => ?_) (fun c28 => ?_)
        · skip
          refine G_iconst (pc := 35) dX10_over_35 ?_
          refine G_iret (pc := 36) dX10_over_36 rfl (by decide) ?_
          exact Q_i (by split <;> (try split) <;> (try split) <;> (try split) <;> omega) hq
        · skip
          refine G_iconst (pc := 31) dX10_over_31 ?_
          refine G_goto (pc := 32) 36 dX10_over_32 rfl ?_
          refine G_iret (pc := 36) dX10_over_36 rfl (by decide) ?_
          exact Q_i (by split <;> (try split) <;> (try split) <;> (try split) <;> omega) hq
      · skip
        refine G_iconst (pc := 22) dX10_over_22 ?_
        refine G_goto (pc := 23) 36 dX10_over_23 rfl ?_
        refine G_iret (pc := 36) dX10_over_36 rfl (by decide) ?_
        exact Q_i (by split <;> (try split) <;> (try split) <;> (try split) <;> omega) hq
    · skip
      refine G_iconst (pc := 13) dX10_over_13 ?_
      refine G_goto (pc := 14) 36 dX10_over_14 rfl ?_
      refine G_iret (pc := 36) dX10_over_36 rfl (by decide) ?_
      exact Q_i (by split <;> (try split) <;> (try split) <;> (try split) <;> omega) hq
  · skip
    refine G_iconst (pc := 4) dX10_over_4 ?_
    refine G_goto (pc := 5) 36 dX10_over_5 rfl ?_
    refine G_iret (pc := 36) dX10_over_36 rfl (by decide) ?_
    exact Q_i (by split <;> (try split) <;> (try split) <;> (try split) <;> omega) hq
