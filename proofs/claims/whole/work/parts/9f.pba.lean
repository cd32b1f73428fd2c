/-! PolyBench: bestWay, plan, planned, says -/
noncomputable def ccst (S : SS) (kd cu : Int → Int) (a b : Int) : Int → Int := fun wy => ctO (kd wy) (cu wy) (plen (pr S a) 32) (plen (pr S b) 32) (smf (pr S a) (pr S b))
noncomputable def csay (S : SS) (kd cu : Int → Int) (a b : Int) (X : List Int × List Int × List Int) : Int → Int := fun wy => sayv (wenv (plen (pr S a) 32) (plen (pr S b) 32) (cu wy) (kd wy) (smf (pr S a) (pr S b))) (tprt X (wprt (kd wy)))
set_option maxRecDepth 100000 in
set_option maxHeartbeats 4000000 in
theorem l_X9_bestWay {g : GC} {p ru w a b : Int} {kd cu : Int → Int} {sh : SH} {S : SS} {X : List Int × List Int × List Int} {n : Nat} {Q : Option Value → GA → Nat → Prop} (hW : PbW p sh S) (hV : VwW sh S w kd cu) (ha : 0 ≤ a ∧ a < 8) (hb : 0 ≤ b ∧ b < 8) (hX : TxW sh S (ta ru)) (hT : TxP S (ta ru) X) (eru : S.1 0 11 = ru) (hru : 0 ≤ ru ∧ ru < 6) (hN : ∀ i : Int, ¬ (0 ≤ i ∧ i < 6) → S.2.1 10 i = 0) (hVal : ∀ wy : Int, 0 ≤ wy → wy < w → Val (wenv (plen (pr S a) 32) (plen (pr S b) 32) (cu wy) (kd wy) (smf (pr S a) (pr S b))) (tprt X (wprt (kd wy))) (csay S kd cu a b X wy)) (hq : ∀ S' : SS, RuR (ta ru) S S' → TxW sh S' (ta ru) → (∀ i : Int, ¬ (0 ≤ i ∧ i < 6) → S'.2.1 10 i = 0) → Q (some (.int (iI (plo (ccst S kd cu a b) (csay S kd cu a b X) w.toNat).1))) (hp g sh S') n) : ∀ (k t : Nat) (bst lst : Int) (S1 : SS), t + k = w.toNat → (plo (ccst S kd cu a b) (csay S kd cu a b X) t) = (bst, lst) → IsI lst → RuR (ta ru) S S1 → TxW sh S1 (ta ru) → (∀ i : Int, ¬ (0 ≤ i ∧ i < 6) → S1.2.1 10 i = 0) → G g mX9_bestWay 5 0 0 8 [(5, .int (iI t)), (4, .int (iI lst)), (3, .int (iI bst)), (0, gr g 0), (1, .int (iI a)), (2, .int (iI b))] [] (hp g sh S1) n 0 0 Q := by
  have h00 := hW.1.1
  have tb : 72 ≤ ta ru ∧ ta ru ≤ 92 := by unfold ta; omega
  have hV' := hV
  obtain ⟨v5, vb, vw⟩ := hV'
  have bA := plen_bd (pr S a) 32
  have bB := plen_bd (pr S b) 32
  intro k
  induction k with
  | zero =>
    intro t bst lst S1 ht hpl hls r1 r2 r3
    obtain rfl : t = w.toNat := by omega
    have hqq := hq S1 r1 r2 r3
    rw [hpl] at hqq
    have e5 : S1.1 0 5 = w := (r1.1 0 5 (by omega)).trans v5
    refine G_iload (pc := 8) dX9_bestWay_8 rfl ?_
    refine S_aload_n (pc := 10) dX9_bestWay_10 rfl ?_
    refine S_getI (pc := 11) dX9_bestWay_11 fX9_148 (by assumption) rfl ?_
    rw [e5]
    refine G_icmp_ge_t (pc := 14) 68 dX9_bestWay_14 rfl (by omega) (by omega) ?_
    refine G_iload_n (pc := 68) dX9_bestWay_68 rfl ?_
    refine G_iret (pc := 69) dX9_bestWay_69 rfl (by decide) ?_
    exact hqq
  | succ k ih =>
    intro t bst lst S1 ht hpl hls r1 r2 r3
    obtain ⟨W1, e1⟩ := PbW_ru tb r1 hW
    have V1 := VwW_ru tb r1 hV
    have T1 := TxP_ru tb r1 hT
    have htw : (0 : Int) ≤ (t : Int) ∧ (t : Int) < w := by omega
    have hpb := plo_bd (cst := ccst S kd cu a b) (say := csay S kd cu a b X) t
    rw [hpl] at hpb
    have hpb2 : -1 ≤ bst ∧ bst < t := ⟨hpb.1, hpb.2.1⟩
    have e5 : S1.1 0 5 = w := (r1.1 0 5 (by omega)).trans v5
    have eru1 : S1.1 0 11 = ru := (r1.1 0 11 (by omega)).trans eru
    obtain ⟨g1, g2, g3, g4⟩ := vw t htw.1 htw.2
    have hcb : -4 ≤ ccst S kd cu a b t ∧ ccst S kd cu a b t ≤ 5000 ∧ (ccst S kd cu a b t < 0 → ccst S kd cu a b t = -4) := ctO_bd (sm := smf (pr S a) (pr S b)) g3 g4 (show 0 ≤ plen (pr S a) 32 ∧ plen (pr S a) 32 ≤ 32 by omega) (show 0 ≤ plen (pr S b) 32 ∧ plen (pr S b) 32 ≤ 32 by omega)
    have hv1 := hVal t htw.1 htw.2
    have hvb : -2147483648 ≤ csay S kd cu a b X t ∧ csay S kd cu a b X t ≤ 2147483647 := hv1.2
    unfold IsI at hls
    have hst : (plo (ccst S kd cu a b) (csay S kd cu a b X) (t + 1)) = (if ccst S kd cu a b t < 0 then (bst, lst) else if bst = -1 ∨ csay S kd cu a b X t < lst then ((t : Int), csay S kd cu a b X t) else (bst, lst)) := by
      show (if ccst S kd cu a b t < 0 then (plo (ccst S kd cu a b) (csay S kd cu a b X) t) else if (plo (ccst S kd cu a b) (csay S kd cu a b X) t).1 = -1 ∨ csay S kd cu a b X t < (plo (ccst S kd cu a b) (csay S kd cu a b X) t).2 then ((t : Int), csay S kd cu a b X t) else (plo (ccst S kd cu a b) (csay S kd cu a b X) t)) = _
      rw [hpl]
    have hS2 : ∀ (b2 l2 : Int) (S2 : SS), (plo (ccst S kd cu a b) (csay S kd cu a b X) (t + 1)) = (b2, l2) → IsI l2 → RuR (ta ru) S S2 → TxW sh S2 (ta ru) → (∀ i : Int, ¬ (0 ≤ i ∧ i < 6) → S2.2.1 10 i = 0) → G g mX9_bestWay 5 0 0 8 [(5, .int (iI ((t : Int) + 1))), (4, .int (iI l2)), (3, .int (iI b2)), (0, gr g 0), (1, .int (iI a)), (2, .int (iI b))] [] (hp g sh S2) n 0 0 Q := fun b2 l2 S2 z1 z2 z3 z4 z5 => ih (t + 1) b2 l2 S2 (by omega) z1 z2 z3 z4 z5
    refine G_iload (pc := 8) dX9_bestWay_8 rfl ?_
    refine S_aload_n (pc := 10) dX9_bestWay_10 rfl ?_
    refine S_getI (pc := 11) dX9_bestWay_11 fX9_148 (by assumption) rfl ?_
    rw [e5]
    refine G_icmp_ge_f (pc := 14) 68 dX9_bestWay_14 rfl (by omega) (by omega) ?_
    refine S_aload_n (pc := 17) dX9_bestWay_17 rfl ?_
    refine G_iload_n (pc := 18) dX9_bestWay_18 rfl ?_
    refine G_iload_n (pc := 19) dX9_bestWay_19 rfl ?_
    refine G_iload (pc := 20) dX9_bestWay_20 rfl ?_
    refine S_callV (pc := 22) (ci := 9) (d2 := 4) (mc2 := 0) (ms2 := 0) (As := [_, _, _]) dX9_bestWay_22 kX9_countFor lkX9_160 (by assumption) rfl rfl rfl (Nat.le_of_ble_eq_true rfl) ⟨by decide, by decide⟩ (by decide) ?_
    refine c_X9_countFor W1 V1 ha hb htw ?_
    rw [e1 a ha.1 ha.2, e1 b hb.1 hb.2]
    rw [show ctO (kd t) (cu t) (plen (pr S a) 32) (plen (pr S b) 32) (smf (pr S a) (pr S b)) = ccst S kd cu a b t from rfl]
    show G _ _ _ _ _ _ _ _ _ _ _ _ _
    refine G_bipush (pc := 25) dX9_bestWay_25 rfl ?_
    refine G_icmp_ne (pc := 27) 33 dX9_bestWay_27 rfl (by omega) (fun c27 => ?_) (fun c27 => ?_)
    · skip
      refine S_aload_n (pc := 33) dX9_bestWay_33 rfl ?_
      refine G_iload_n (pc := 34) dX9_bestWay_34 rfl ?_
      refine G_iload_n (pc := 35) dX9_bestWay_35 rfl ?_
      refine G_iload (pc := 36) dX9_bestWay_36 rfl ?_
      refine S_callV (pc := 38) (ci := 9) (d2 := 4) (mc2 := 0) (ms2 := 0) (As := [_, _, _]) dX9_bestWay_38 kX9_ruleFor lkX9_180 (by assumption) rfl rfl rfl (Nat.le_of_ble_eq_true rfl) ⟨by decide, by decide⟩ (by decide) ?_
      refine c_X9_ruleFor W1 V1 ha hb htw r2 T1 eru1 hru r3 (by rw [e1 a ha.1 ha.2, e1 b hb.1 hb.2]; exact hv1) (fun S2 y1 y2 y3 => ?_)
      rw [e1 a ha.1 ha.2, e1 b hb.1 hb.2]
      rw [show sayv (wenv (plen (pr S a) 32) (plen (pr S b) 32) (cu t) (kd t) (smf (pr S a) (pr S b))) (tprt X (wprt (kd t))) = csay S kd cu a b X t from rfl]
      · show G _ _ _ _ _ _ _ _ _ _ _ _ _
        refine G_istore (pc := 41) (ls' := [(6, _), (5, _), (4, _), (3, _), (0, _), (1, _), (2, _)]) dX9_bestWay_41 (by decide) rfl ?_
        refine G_iload_n (pc := 43) dX9_bestWay_43 rfl ?_
        refine G_iconst (pc := 44) dX9_bestWay_44 ?_
        refine G_icmp_eq (pc := 45) 55 dX9_bestWay_45 rfl (by omega) (fun c45 => ?_) (fun c45 => ?_)
        · skip
          refine G_iload (pc := 55) dX9_bestWay_55 rfl ?_
          refine G_istore_n (pc := 57) (ls' := [(3, _), (6, _), (5, _), (4, _), (0, _), (1, _), (2, _)]) dX9_bestWay_57 (by decide) rfl ?_
          refine G_iload (pc := 58) dX9_bestWay_58 rfl ?_
          refine G_istore (pc := 60) (ls' := [(4, _), (3, _), (6, _), (5, _), (0, _), (1, _), (2, _)]) dX9_bestWay_60 (by decide) rfl ?_
          refine G_iinc (pc := 62) (ls' := [(5, _), (4, _), (3, _), (6, _), (0, _), (1, _), (2, _)]) dX9_bestWay_62 rfl (by decide) rfl ?_
          refine G_goto (pc := 65) 8 dX9_bestWay_65 rfl ?_
          refine G_ls (ls' := [(5, _), (4, _), (3, _), (0, _), (1, _), (2, _)]) (lsub_c rfl (lsub_c rfl (lsub_c rfl (lsub_c rfl (lsub_c rfl (lsub_c rfl lsub_n)))))) ?_
          first
            | exact hS2 bst lst S1 (by rw [hst, if_pos (by omega)]) hls r1 r2 r3
            | exact hS2 _ _ S2 (by rw [hst, if_neg (by omega), if_pos (by omega)]) hvb (RuR_tr r1 y1) y2 y3
            | exact hS2 bst lst S2 (by rw [hst, if_neg (by omega), if_neg (by omega)]) hls (RuR_tr r1 y1) y2 y3
        · skip
          refine G_iload (pc := 48) dX9_bestWay_48 rfl ?_
          refine G_iload (pc := 50) dX9_bestWay_50 rfl ?_
          refine G_icmp_ge (pc := 52) 62 dX9_bestWay_52 rfl (by omega) (fun c52 => ?_) (fun c52 => ?_)
          · skip
            refine G_iinc (pc := 62) (ls' := [(5, _), (6, _), (4, _), (3, _), (0, _), (1, _), (2, _)]) dX9_bestWay_62 rfl (by decide) rfl ?_
            refine G_goto (pc := 65) 8 dX9_bestWay_65 rfl ?_
            refine G_ls (ls' := [(5, _), (4, _), (3, _), (0, _), (1, _), (2, _)]) (lsub_c rfl (lsub_c rfl (lsub_c rfl (lsub_c rfl (lsub_c rfl (lsub_c rfl lsub_n)))))) ?_
            first
              | exact hS2 bst lst S1 (by rw [hst, if_pos (by omega)]) hls r1 r2 r3
              | exact hS2 _ _ S2 (by rw [hst, if_neg (by omega), if_pos (by omega)]) hvb (RuR_tr r1 y1) y2 y3
              | exact hS2 bst lst S2 (by rw [hst, if_neg (by omega), if_neg (by omega)]) hls (RuR_tr r1 y1) y2 y3
          · skip
            refine G_iload (pc := 55) dX9_bestWay_55 rfl ?_
            refine G_istore_n (pc := 57) (ls' := [(3, _), (6, _), (5, _), (4, _), (0, _), (1, _), (2, _)]) dX9_bestWay_57 (by decide) rfl ?_
            refine G_iload (pc := 58) dX9_bestWay_58 rfl ?_
            refine G_istore (pc := 60) (ls' := [(4, _), (3, _), (6, _), (5, _), (0, _), (1, _), (2, _)]) dX9_bestWay_60 (by decide) rfl ?_
            refine G_iinc (pc := 62) (ls' := [(5, _), (4, _), (3, _), (6, _), (0, _), (1, _), (2, _)]) dX9_bestWay_62 rfl (by decide) rfl ?_
            refine G_goto (pc := 65) 8 dX9_bestWay_65 rfl ?_
            refine G_ls (ls' := [(5, _), (4, _), (3, _), (0, _), (1, _), (2, _)]) (lsub_c rfl (lsub_c rfl (lsub_c rfl (lsub_c rfl (lsub_c rfl (lsub_c rfl lsub_n)))))) ?_
            first
              | exact hS2 bst lst S1 (by rw [hst, if_pos (by omega)]) hls r1 r2 r3
              | exact hS2 _ _ S2 (by rw [hst, if_neg (by omega), if_pos (by omega)]) hvb (RuR_tr r1 y1) y2 y3
              | exact hS2 bst lst S2 (by rw [hst, if_neg (by omega), if_neg (by omega)]) hls (RuR_tr r1 y1) y2 y3
    · skip
      refine G_goto (pc := 30) 62 dX9_bestWay_30 rfl ?_
      refine G_iinc (pc := 62) (ls' := [(5, _), (4, _), (3, _), (0, _), (1, _), (2, _)]) dX9_bestWay_62 rfl (by decide) rfl ?_
      refine G_goto (pc := 65) 8 dX9_bestWay_65 rfl ?_
      first
        | exact hS2 bst lst S1 (by rw [hst, if_pos (by omega)]) hls r1 r2 r3
        | exact hS2 _ _ S2 (by rw [hst, if_neg (by omega), if_pos (by omega)]) hvb (RuR_tr r1 y1) y2 y3
        | exact hS2 bst lst S2 (by rw [hst, if_neg (by omega), if_neg (by omega)]) hls (RuR_tr r1 y1) y2 y3
set_option maxRecDepth 100000 in
set_option maxHeartbeats 4000000 in
theorem c_X9_bestWay {g : GC} {p ru w a b : Int} {kd cu : Int → Int} {sh : SH} {S : SS} {X : List Int × List Int × List Int} {n : Nat} {Q : Option Value → GA → Nat → Prop} (hW : PbW p sh S) (hV : VwW sh S w kd cu) (ha : 0 ≤ a ∧ a < 8) (hb : 0 ≤ b ∧ b < 8) (hX : TxW sh S (ta ru)) (hT : TxP S (ta ru) X) (eru : S.1 0 11 = ru) (hru : 0 ≤ ru ∧ ru < 6) (hN : ∀ i : Int, ¬ (0 ≤ i ∧ i < 6) → S.2.1 10 i = 0) (hVal : ∀ wy : Int, 0 ≤ wy → wy < w → Val (wenv (plen (pr S a) 32) (plen (pr S b) 32) (cu wy) (kd wy) (smf (pr S a) (pr S b))) (tprt X (wprt (kd wy))) (csay S kd cu a b X wy)) (hq : ∀ S' : SS, RuR (ta ru) S S' → TxW sh S' (ta ru) → (∀ i : Int, ¬ (0 ≤ i ∧ i < 6) → S'.2.1 10 i = 0) → Q (some (.int (iI (plo (ccst S kd cu a b) (csay S kd cu a b X) w.toNat).1))) (hp g sh S') n) : GCall g mX9_bestWay 5 0 0 [gr g 0, .int (iI a), .int (iI b)] (hp g sh S) n Q := by
  have hl := l_X9_bestWay hW hV ha hb hX hT eru hru hN hVal hq w.toNat 0 (-1) 0 S (by omega) rfl (by unfold IsI; omega) RuR_rf hX hN
  refine GCall.of (by decide) (Nat.le_of_ble_eq_true rfl) (ls := [(0, _), (1, _), (2, _)]) rfl ?_
  refine G_iconst (pc := 0) dX9_bestWay_0 ?_
  refine G_istore_n (pc := 1) (ls' := [(3, _), (0, _), (1, _), (2, _)]) dX9_bestWay_1 (by decide) rfl ?_
  refine G_iconst (pc := 2) dX9_bestWay_2 ?_
  refine G_istore (pc := 3) (ls' := [(4, _), (3, _), (0, _), (1, _), (2, _)]) dX9_bestWay_3 (by decide) rfl ?_
  refine G_iconst (pc := 5) dX9_bestWay_5 ?_
  refine G_istore (pc := 6) (ls' := [(5, _), (4, _), (3, _), (0, _), (1, _), (2, _)]) dX9_bestWay_6 (by decide) rfl ?_
  exact hl
set_option maxRecDepth 100000 in
set_option maxHeartbeats 4000000 in
theorem c_X9_plan {g : GC} {p ru w a b : Int} {kd cu : Int → Int} {sh : SH} {S : SS} {X : List Int × List Int × List Int} {n : Nat} {Q : Option Value → GA → Nat → Prop} (hW : PbW p sh S) (hV : VwW sh S w kd cu) (hr : (-2147483648 ≤ a ∧ a ≤ 2147483647) ∧ (-2147483648 ≤ b ∧ b ≤ 2147483647)) (hX : TxW sh S (ta ru)) (hT : TxP S (ta ru) X) (eru : S.1 0 11 = ru) (hru : 0 ≤ ru ∧ ru < 6) (hN : ∀ i : Int, ¬ (0 ≤ i ∧ i < 6) → S.2.1 10 i = 0) (hVal : (0 ≤ a ∧ a < 8) → (0 ≤ b ∧ b < 8) → ∀ wy : Int, 0 ≤ wy → wy < w → Val (wenv (plen (pr S a) 32) (plen (pr S b) 32) (cu wy) (kd wy) (smf (pr S a) (pr S b))) (tprt X (wprt (kd wy))) (csay S kd cu a b X wy)) (h0 : ¬ ((0 ≤ a ∧ a < 8) ∧ (0 ≤ b ∧ b < 8)) → Q (some (.int (iI (-2)))) (hp g sh S) n) (h1 : (0 ≤ a ∧ a < 8) → (0 ≤ b ∧ b < 8) → ∀ S' : SS, RuR (ta ru) S S' → TxW sh S' (ta ru) → (∀ i : Int, ¬ (0 ≤ i ∧ i < 6) → S'.2.1 10 i = 0) → Q (some (.int (iI (plo (ccst S kd cu a b) (csay S kd cu a b X) w.toNat).1))) (hp g sh S') n) : GCall g mX9_plan 6 0 0 [gr g 0, .int (iI a), .int (iI b)] (hp g sh S) n Q := by
  have h00 := hW.1.1
  refine GCall.of (by decide) (Nat.le_of_ble_eq_true rfl) (ls := [(0, _), (1, _), (2, _)]) rfl ?_
  refine G_iload_n (pc := 0) dX9_plan_0 rfl ?_
  refine G_callS (pc := 1) (d2 := 2) (mc2 := 0) (ms2 := 0) (As := [_]) dX9_plan_1 kX9_isPoly lkX9_107 rfl rfl (Nat.le_of_ble_eq_true rfl) ⟨by decide, by decide⟩ (by decide) ?_
  refine c_X9_isPoly (by omega) (fun w1 => ?_) (fun w1 => ?_)
  · show G _ _ _ _ _ _ _ _ _ _ _ _ _
    refine G_if_eq_f (pc := 4) 14 dX9_plan_4 rfl (by decide) (by decide) ?_
    refine G_iload_n (pc := 7) dX9_plan_7 rfl ?_
    refine G_callS (pc := 8) (d2 := 2) (mc2 := 0) (ms2 := 0) (As := [_]) dX9_plan_8 kX9_isPoly lkX9_107 rfl rfl (Nat.le_of_ble_eq_true rfl) ⟨by decide, by decide⟩ (by decide) ?_
    refine c_X9_isPoly (by omega) (fun w8 => ?_) (fun w8 => ?_)
    · show G _ _ _ _ _ _ _ _ _ _ _ _ _
      refine G_if_ne_t (pc := 11) 17 dX9_plan_11 rfl (by decide) (by decide) ?_
      refine S_aload_n (pc := 17) dX9_plan_17 rfl ?_
      refine G_iload_n (pc := 18) dX9_plan_18 rfl ?_
      refine G_iload_n (pc := 19) dX9_plan_19 rfl ?_
      refine S_callV (pc := 20) (ci := 9) (d2 := 5) (mc2 := 0) (ms2 := 0) (As := [_, _]) dX9_plan_20 kX9_bestWay lkX9_164 (by assumption) rfl rfl rfl (Nat.le_of_ble_eq_true rfl) ⟨by decide, by decide⟩ (by decide) ?_
      refine c_X9_bestWay hW hV w1 w8 hX hT eru hru hN (hVal w1 w8) (fun S1 y1 y2 y3 => ?_)
      · show G _ _ _ _ _ _ _ _ _ _ _ _ _
        refine G_iret (pc := 23) dX9_plan_23 rfl (by decide) ?_
        first | exact h0 (by omega) | exact h1 w1 w8 S1 y1 y2 y3
    · show G _ _ _ _ _ _ _ _ _ _ _ _ _
      refine G_if_ne_f (pc := 11) 17 dX9_plan_11 rfl (by decide) (by decide) ?_
      refine G_bipush (pc := 14) dX9_plan_14 rfl ?_
      refine G_iret (pc := 16) dX9_plan_16 rfl (by decide) ?_
      first | exact h0 (by omega) | exact h1 w1 w8 S1 y1 y2 y3
  · show G _ _ _ _ _ _ _ _ _ _ _ _ _
    refine G_if_eq_t (pc := 4) 14 dX9_plan_4 rfl (by decide) (by decide) ?_
    refine G_bipush (pc := 14) dX9_plan_14 rfl ?_
    refine G_iret (pc := 16) dX9_plan_16 rfl (by decide) ?_
    first | exact h0 (by omega) | exact h1 w1 w8 S1 y1 y2 y3
set_option maxRecDepth 100000 in
set_option maxHeartbeats 4000000 in
theorem c_X9_says {g : GC} {p ru w wy a b : Int} {kd cu : Int → Int} {sh : SH} {S : SS} {X : List Int × List Int × List Int} {n : Nat} {Q : Option Value → GA → Nat → Prop} (hW : PbW p sh S) (hV : VwW sh S w kd cu) (hr : (-2147483648 ≤ wy ∧ wy ≤ 2147483647) ∧ (-2147483648 ≤ a ∧ a ≤ 2147483647) ∧ (-2147483648 ≤ b ∧ b ≤ 2147483647)) (hX : TxW sh S (ta ru)) (hT : TxP S (ta ru) X) (eru : S.1 0 11 = ru) (hru : 0 ≤ ru ∧ ru < 6) (hN : ∀ i : Int, ¬ (0 ≤ i ∧ i < 6) → S.2.1 10 i = 0) (hVal : (0 ≤ a ∧ a < 8) → (0 ≤ b ∧ b < 8) → ∀ wy : Int, 0 ≤ wy → wy < w → Val (wenv (plen (pr S a) 32) (plen (pr S b) 32) (cu wy) (kd wy) (smf (pr S a) (pr S b))) (tprt X (wprt (kd wy))) (csay S kd cu a b X wy)) (h0 : ¬ ((0 ≤ wy ∧ wy < w) ∧ (0 ≤ a ∧ a < 8) ∧ (0 ≤ b ∧ b < 8)) → Q (some (.long (iL (-4611686018427387904)))) (hp g sh S) n) (h1 : (0 ≤ wy ∧ wy < w) → (0 ≤ a ∧ a < 8) → (0 ≤ b ∧ b < 8) → ∀ S' : SS, RuR (ta ru) S S' → TxW sh S' (ta ru) → (∀ i : Int, ¬ (0 ≤ i ∧ i < 6) → S'.2.1 10 i = 0) → Q (some (.long (iL (csay S kd cu a b X wy)))) (hp g sh S') n) : GCall g mX9_says 5 0 0 [gr g 0, .int (iI wy), .int (iI a), .int (iI b)] (hp g sh S) n Q := by
  have h00 := hW.1.1
  have Kf : (0 ≤ wy ∧ wy < w) → (0 ≤ a ∧ a < 8) → (0 ≤ b ∧ b < 8) → ∀ S1 : SS, RuR (ta ru) S S1 → TxW sh S1 (ta ru) → (∀ i : Int, ¬ (0 ≤ i ∧ i < 6) → S1.2.1 10 i = 0) → G g mX9_says 5 0 0 33 [(0, gr g 0), (1, .int (iI wy)), (2, .int (iI a)), (3, .int (iI b))] [.int (iI (csay S kd cu a b X wy))] (hp g sh S1) n 0 0 Q := by
    intro cw ca cb S1 y1 y2 y3
    have hvb := (hVal ca cb wy cw.1 cw.2).2
    have hqq := h1 cw ca cb S1 y1 y2 y3
    refine G_i2l (pc := 33) dX9_says_33 (by omega) ?_
    refine G_lret (pc := 34) dX9_says_34 rfl (by decide) ?_
    exact hqq
  refine GCall.of (by decide) (Nat.le_of_ble_eq_true rfl) (ls := [(0, _), (1, _), (2, _), (3, _)]) rfl ?_
  refine S_aload_n (pc := 0) dX9_says_0 rfl ?_
  refine G_iload_n (pc := 1) dX9_says_1 rfl ?_
  refine S_callV (pc := 2) (ci := 9) (d2 := 2) (mc2 := 0) (ms2 := 0) (As := [_]) dX9_says_2 kX9_isWay lkX9_153 (by assumption) rfl rfl rfl (Nat.le_of_ble_eq_true rfl) ⟨by decide, by decide⟩ (by decide) ?_
  refine c_X9_isWay hW hV (by omega) (fun w2 => ?_) (fun w2 => ?_)
  · show G _ _ _ _ _ _ _ _ _ _ _ _ _
    refine G_if_eq_f (pc := 5) 22 dX9_says_5 rfl (by decide) (by decide) ?_
    refine G_iload_n (pc := 8) dX9_says_8 rfl ?_
    refine G_callS (pc := 9) (d2 := 2) (mc2 := 0) (ms2 := 0) (As := [_]) dX9_says_9 kX9_isPoly lkX9_107 rfl rfl (Nat.le_of_ble_eq_true rfl) ⟨by decide, by decide⟩ (by decide) ?_
    refine c_X9_isPoly (by omega) (fun w9 => ?_) (fun w9 => ?_)
    · show G _ _ _ _ _ _ _ _ _ _ _ _ _
      refine G_if_eq_f (pc := 12) 22 dX9_says_12 rfl (by decide) (by decide) ?_
      refine G_iload_n (pc := 15) dX9_says_15 rfl ?_
      refine G_callS (pc := 16) (d2 := 2) (mc2 := 0) (ms2 := 0) (As := [_]) dX9_says_16 kX9_isPoly lkX9_107 rfl rfl (Nat.le_of_ble_eq_true rfl) ⟨by decide, by decide⟩ (by decide) ?_
      refine c_X9_isPoly (by omega) (fun w16 => ?_) (fun w16 => ?_)
      · show G _ _ _ _ _ _ _ _ _ _ _ _ _
        refine G_if_ne_t (pc := 19) 26 dX9_says_19 rfl (by decide) (by decide) ?_
        refine S_aload_n (pc := 26) dX9_says_26 rfl ?_
        refine G_iload_n (pc := 27) dX9_says_27 rfl ?_
        refine G_iload_n (pc := 28) dX9_says_28 rfl ?_
        refine G_iload_n (pc := 29) dX9_says_29 rfl ?_
        refine S_callV (pc := 30) (ci := 9) (d2 := 4) (mc2 := 0) (ms2 := 0) (As := [_, _, _]) dX9_says_30 kX9_ruleFor lkX9_180 (by assumption) rfl rfl rfl (Nat.le_of_ble_eq_true rfl) ⟨by decide, by decide⟩ (by decide) ?_
        refine c_X9_ruleFor hW hV w9 w16 w2 hX hT eru hru hN (hVal w9 w16 wy w2.1 w2.2) (fun S1 y1 y2 y3 => ?_)
        · show G _ _ _ _ _ _ _ _ _ _ _ _ _
          exact Kf w2 w9 w16 S1 y1 y2 y3
      · show G _ _ _ _ _ _ _ _ _ _ _ _ _
        refine G_if_ne_f (pc := 19) 26 dX9_says_19 rfl (by decide) (by decide) ?_
        refine G_ldc2 (pc := 22) (z := -4611686018427387904) dX9_says_22 coX9_178 rfl ?_
        refine G_lret (pc := 25) dX9_says_25 rfl (by decide) ?_
        exact h0 (by omega)
    · show G _ _ _ _ _ _ _ _ _ _ _ _ _
      refine G_if_eq_t (pc := 12) 22 dX9_says_12 rfl (by decide) (by decide) ?_
      refine G_ldc2 (pc := 22) (z := -4611686018427387904) dX9_says_22 coX9_178 rfl ?_
      refine G_lret (pc := 25) dX9_says_25 rfl (by decide) ?_
      exact h0 (by omega)
  · show G _ _ _ _ _ _ _ _ _ _ _ _ _
    refine G_if_eq_t (pc := 5) 22 dX9_says_5 rfl (by decide) (by decide) ?_
    refine G_ldc2 (pc := 22) (z := -4611686018427387904) dX9_says_22 coX9_178 rfl ?_
    refine G_lret (pc := 25) dX9_says_25 rfl (by decide) ?_
    exact h0 (by omega)
set_option maxRecDepth 100000 in
set_option maxHeartbeats 4000000 in
theorem c_X9_planned {g : GC} {p ru w t a b bs : Int} {kd cu : Int → Int} {sh : SH} {S : SS} {X : List Int × List Int × List Int} {n : Nat} {Q : Option Value → GA → Nat → Prop} (hW : PbW p sh S) (hV : VwW sh S w kd cu) (hr : (-2147483648 ≤ t ∧ t ≤ 2147483647) ∧ (-2147483648 ≤ a ∧ a ≤ 2147483647) ∧ (-2147483648 ≤ b ∧ b ≤ 2147483647)) (hX : TxW sh S (ta ru)) (hT : TxP S (ta ru) X) (eru : S.1 0 11 = ru) (hru : 0 ≤ ru ∧ ru < 6) (hN : ∀ i : Int, ¬ (0 ≤ i ∧ i < 6) → S.2.1 10 i = 0) (hVal : (0 ≤ a ∧ a < 8) → (0 ≤ b ∧ b < 8) → ∀ wy : Int, 0 ≤ wy → wy < w → Val (wenv (plen (pr S a) 32) (plen (pr S b) 32) (cu wy) (kd wy) (smf (pr S a) (pr S b))) (tprt X (wprt (kd wy))) (csay S kd cu a b X wy)) (hbs : bs = (plo (ccst S kd cu a b) (csay S kd cu a b X) w.toNat).1) (h0 : ¬ ((0 ≤ t ∧ t < 8) ∧ (0 ≤ a ∧ a < 8) ∧ (0 ≤ b ∧ b < 8)) → Q (some (.int (iI (-2)))) (hp g sh S) n)
    (h1 : (0 ≤ t ∧ t < 8) → (0 ≤ a ∧ a < 8) → (0 ≤ b ∧ b < 8) → bs = -1 → ∀ S' : SS, RuR (ta ru) S S' → TxW sh S' (ta ru) → (∀ i : Int, ¬ (0 ≤ i ∧ i < 6) → S'.2.1 10 i = 0) → Q (some (.int (iI (-3)))) (hp g sh S') n)
    (h2 : (0 ≤ t ∧ t < 8) → (0 ≤ a ∧ a < 8) → (0 ≤ b ∧ b < 8) → (0 ≤ bs ∧ bs < w) → 32 < plen (pr S a) 32 + plen (pr S b) 32 - 1 → ∀ S' : SS, RuR (ta ru) S S' → TxW sh S' (ta ru) → (∀ i : Int, ¬ (0 ≤ i ∧ i < 6) → S'.2.1 10 i = 0) → Q (some (.int (iI (-4)))) (hp g sh S') n)
    (h3 : (0 ≤ t ∧ t < 8) → (0 ≤ a ∧ a < 8) → (0 ≤ b ∧ b < 8) → (0 ≤ bs ∧ bs < w) → ¬ 32 < plen (pr S a) 32 + plen (pr S b) 32 - 1 → ∀ S' : SS, RuR (ta ru) S S' → TxW sh S' (ta ru) → (∀ i : Int, ¬ (0 ≤ i ∧ i < 6) → S'.2.1 10 i = 0) → ∀ S2 : SS, PbE p sh S' t (pmul p (pr S a) (pr S b)) S2 → Q (some (.int (iI bs))) (hp g sh (setF S2 0 6 (S'.1 0 6 + ccst S kd cu a b bs))) n) : GCall g mX9_planned 6 0 0 [gr g 0, .int (iI t), .int (iI a), .int (iI b)] (hp g sh S) n Q := by
  have h00 := hW.1.1
  have tb : 72 ≤ ta ru ∧ ta ru ≤ 92 := by unfold ta; omega
  have hvb := hV.2.1
  have hpb := plo_bd (cst := ccst S kd cu a b) (say := csay S kd cu a b X) w.toNat
  rw [← hbs] at hpb
  have Kf : (0 ≤ t ∧ t < 8) → (0 ≤ a ∧ a < 8) → (0 ≤ b ∧ b < 8) → ∀ S1 : SS, RuR (ta ru) S S1 → TxW sh S1 (ta ru) → (∀ i : Int, ¬ (0 ≤ i ∧ i < 6) → S1.2.1 10 i = 0) → G g mX9_planned 6 0 0 20 [(4, .int (iI bs)), (0, gr g 0), (1, .int (iI t)), (2, .int (iI a)), (3, .int (iI b))] [] (hp g sh S1) n 0 0 Q := by
    intro ct ca cb S1 y1 y2 y3
    obtain ⟨W1, e1⟩ := PbW_ru tb y1 hW
    have V1 := VwW_ru tb y1 hV
    have eC : ctO (kd bs) (cu bs) (plen (pr S1 a) 32) (plen (pr S1 b) 32) (smf (pr S1 a) (pr S1 b)) = ccst S kd cu a b bs := by rw [e1 a ca.1 ca.2, e1 b cb.1 cb.2]; rfl
    have hh2 := fun z z2 => h2 ct ca cb z z2 S1 y1 y2 y3
    have hh3 := fun z z2 => h3 ct ca cb z z2 S1 y1 y2 y3
    rw [← e1 a ca.1 ca.2, ← e1 b cb.1 cb.2] at hh2 hh3
    by_cases cb1 : bs = -1
    · have hh1 := h1 ct ca cb cb1 S1 y1 y2 y3
      refine G_iload (pc := 20) dX9_planned_20 rfl ?_
      refine G_iconst (pc := 22) dX9_planned_22 ?_
      refine G_icmp_ne_f (pc := 23) 29 dX9_planned_23 rfl (by omega) (by omega) ?_
      refine G_bipush (pc := 26) dX9_planned_26 rfl ?_
      refine G_iret (pc := 28) dX9_planned_28 rfl (by decide) ?_
      exact hh1
    · have hbw : 0 ≤ bs ∧ bs < w := by omega
      have hc0 := hpb.2.2 cb1
      obtain ⟨g1, g2, g3, g4⟩ := hV.2.2 bs hbw.1 hbw.2
      have bA := plen_bd (pr S a) 32
      have bB := plen_bd (pr S b) 32
      have hcb : -4 ≤ ccst S kd cu a b bs ∧ ccst S kd cu a b bs ≤ 5000 ∧ (ccst S kd cu a b bs < 0 → ccst S kd cu a b bs = -4) := ctO_bd (sm := smf (pr S a) (pr S b)) g3 g4 (show 0 ≤ plen (pr S a) 32 ∧ plen (pr S a) 32 ≤ 32 by omega) (show 0 ≤ plen (pr S b) 32 ∧ plen (pr S b) 32 ≤ 32 by omega)
      refine G_iload (pc := 20) dX9_planned_20 rfl ?_
      refine G_iconst (pc := 22) dX9_planned_22 ?_
      refine G_icmp_ne_t (pc := 23) 29 dX9_planned_23 rfl (by omega) (by omega) ?_
      refine S_aload_n (pc := 29) dX9_planned_29 rfl ?_
      refine G_iload_n (pc := 30) dX9_planned_30 rfl ?_
      refine G_iload_n (pc := 31) dX9_planned_31 rfl ?_
      refine G_iload_n (pc := 32) dX9_planned_32 rfl ?_
      refine G_iload (pc := 33) dX9_planned_33 rfl ?_
      refine S_callV (pc := 35) (ci := 9) (d2 := 5) (mc2 := 0) (ms2 := 0) (As := [_, _, _, _]) dX9_planned_35 kX9_multiply lkX9_156 (by assumption) rfl rfl rfl (Nat.le_of_ble_eq_true rfl) ⟨by decide, by decide⟩ (by decide) ?_
      refine c_X9_multiply W1 V1 ct ca cb hbw eC.symm (fun z => ?_) (fun z S2 hE => ?_)
      · show G _ _ _ _ _ _ _ _ _ _ _ _ _
        refine G_bipush (pc := 38) dX9_planned_38 rfl ?_
        refine G_icmp_ne (pc := 40) 48 dX9_planned_40 rfl (by omega) (fun c40 => ?_) (fun c40 => ?_)
        · skip
          refine G_iload (pc := 48) dX9_planned_48 rfl ?_
          refine G_iret (pc := 50) dX9_planned_50 rfl (by decide) ?_
          first
            | (exfalso; omega)
            | exact hh2 hbw (by omega)
            | exact hh3 hbw (by omega) S2 hE
        · skip
          refine G_bipush (pc := 43) dX9_planned_43 rfl ?_
          refine G_goto (pc := 45) 50 dX9_planned_45 rfl ?_
          refine G_iret (pc := 50) dX9_planned_50 rfl (by decide) ?_
          first
            | (exfalso; omega)
            | exact hh2 hbw (by omega)
            | exact hh3 hbw (by omega) S2 hE
      · show G _ _ _ _ _ _ _ _ _ _ _ _ _
        refine G_bipush (pc := 38) dX9_planned_38 rfl ?_
        refine G_icmp_ne (pc := 40) 48 dX9_planned_40 rfl (by omega) (fun c40 => ?_) (fun c40 => ?_)
        · skip
          refine G_iload (pc := 48) dX9_planned_48 rfl ?_
          refine G_iret (pc := 50) dX9_planned_50 rfl (by decide) ?_
          first
            | (exfalso; omega)
            | exact hh2 hbw (by omega)
            | exact hh3 hbw (by omega) S2 hE
        · skip
          refine G_bipush (pc := 43) dX9_planned_43 rfl ?_
          refine G_goto (pc := 45) 50 dX9_planned_45 rfl ?_
          refine G_iret (pc := 50) dX9_planned_50 rfl (by decide) ?_
          first
            | (exfalso; omega)
            | exact hh2 hbw (by omega)
            | exact hh3 hbw (by omega) S2 hE
  refine GCall.of (by decide) (Nat.le_of_ble_eq_true rfl) (ls := [(0, _), (1, _), (2, _), (3, _)]) rfl ?_
  refine G_iload_n (pc := 0) dX9_planned_0 rfl ?_
  refine G_iload_n (pc := 1) dX9_planned_1 rfl ?_
  refine G_iload_n (pc := 2) dX9_planned_2 rfl ?_
  refine G_callS (pc := 3) (d2 := 3) (mc2 := 0) (ms2 := 0) (As := [_, _, _]) dX9_planned_3 kX9_arePolys lkX9_132 rfl rfl (Nat.le_of_ble_eq_true rfl) ⟨by decide, by decide⟩ (by decide) ?_
  refine c_X9_arePolys (by omega) (fun w3 => ?_) (fun w3 => ?_)
  · show G _ _ _ _ _ _ _ _ _ _ _ _ _
    refine G_if_ne_t (pc := 6) 12 dX9_planned_6 rfl (by decide) (by decide) ?_
    refine S_aload_n (pc := 12) dX9_planned_12 rfl ?_
    refine G_iload_n (pc := 13) dX9_planned_13 rfl ?_
    refine G_iload_n (pc := 14) dX9_planned_14 rfl ?_
    refine S_callV (pc := 15) (ci := 9) (d2 := 5) (mc2 := 0) (ms2 := 0) (As := [_, _]) dX9_planned_15 kX9_bestWay lkX9_164 (by assumption) rfl rfl rfl (Nat.le_of_ble_eq_true rfl) ⟨by decide, by decide⟩ (by decide) ?_
    refine c_X9_bestWay hW hV w3.2.1 w3.2.2 hX hT eru hru hN (hVal w3.2.1 w3.2.2) (fun S1 y1 y2 y3 => ?_)
    rw [← hbs]
    · show G _ _ _ _ _ _ _ _ _ _ _ _ _
      refine G_istore (pc := 18) (ls' := [(4, _), (0, _), (1, _), (2, _), (3, _)]) dX9_planned_18 (by decide) rfl ?_
      exact Kf w3.1 w3.2.1 w3.2.2 S1 y1 y2 y3
  · show G _ _ _ _ _ _ _ _ _ _ _ _ _
    refine G_if_ne_f (pc := 6) 12 dX9_planned_6 rfl (by decide) (by decide) ?_
    refine G_bipush (pc := 9) dX9_planned_9 rfl ?_
    refine G_iret (pc := 11) dX9_planned_11 rfl (by decide) ?_
    exact h0 (by omega)
