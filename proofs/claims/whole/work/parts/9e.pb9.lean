/-! PolyBench: ruleFor, bestWay, plan, planned, says -/
theorem PbW_10 {p : Int} {sh : SH} {S : SS} {xs : Int → Int} (hW : PbW p sh S) : PbW p sh (putA S 10 xs) := by
  obtain ⟨hK, ⟨⟨a1, a2, a3, a4, a5, a6, a7, a8, r14, r16, r18, r20⟩, o, w, f, v, e1, e2, e3, e4, e5, e6, e7, e8, e9⟩, hMd, hPo⟩ := hW
  have hp4 := e5
  unfold Perm4 at hp4
  exact ⟨hK, ⟨⟨a1, a2, a3, a4, a5, a6, a7, a8, Row_pA r14 (by omega), Row_pA r16 (by omega), Row_pA r18 (by omega), Row_pA r20 (by omega)⟩, o, w, f, v, e1, e2, e3, e4, e5, Row_pA e6 (by omega), Row_pA e7 (by omega), Row_pA e8 (by omega), Row_pA e9 (by omega)⟩, Row_pA hMd (by omega), fun i x y => Row_pA (hPo i x y) (by unfold pl; omega)⟩
/-- the same but for the names and a text's stack -/
def RuR (x : Nat) (S S' : SS) : Prop := (∀ a k : Nat, (a ≠ x ∨ k ≠ 5) → S'.1 a k = S.1 a k) ∧ (∀ a : Nat, a ≠ 10 → a ≠ x + 3 → S'.2.1 a = S.2.1 a) ∧ S'.2.2 = S.2.2
theorem RuR_rf {x : Nat} {S : SS} : RuR x S S := ⟨fun _ _ _ => rfl, fun _ _ _ => rfl, rfl⟩
theorem RuR_tr {x : Nat} {S S' S'' : SS} (h : RuR x S S') (h' : RuR x S' S'') : RuR x S S'' := ⟨fun a k q => (h'.1 a k q).trans (h.1 a k q), fun a q q' => (h'.2.1 a q q').trans (h.2.1 a q q'), h'.2.2.trans h.2.2⟩
theorem Row_ru {p : Int} {sh : SH} {S S' : SS} {x a N : Nat} (h : RuR x S S') (h1 : a + 1 ≠ 10) (h2 : a + 1 ≠ x + 3) (hr : Row p sh S a N) : Row p sh S' a N := by
  obtain ⟨⟨r1, r2, r3⟩, r4, r5, r6, r7⟩ := hr
  have e : rv S' a = rv S a := h.2.1 (a + 1) h1 h2
  exact ⟨⟨r1, r2, by rw [h.2.2]; exact r3⟩, r4, by rw [h.1 a 1 (by omega), e]; exact r5, by rw [e]; exact r6, by rw [e]; exact r7⟩
theorem PbW_ru {p : Int} {sh : SH} {S S' : SS} {x : Nat} (hx : 72 ≤ x ∧ x ≤ 92) (h : RuR x S S') (hW : PbW p sh S) : PbW p sh S' ∧ ∀ i : Int, 0 ≤ i → i < 8 → pr S' i = pr S i := by
  obtain ⟨hK, ⟨⟨a1, a2, a3, a4, a5, a6, a7, a8, r14, r16, r18, r20⟩, o, w, f, v, e1, e2, e3, e4, e5, e6, e7, e8, e9⟩, hMd, hPo⟩ := hW
  have hp4 := e5
  unfold Perm4 at hp4
  have hn : ∀ i : Int, 0 ≤ i → i < 8 → pl i + 1 ≠ 10 ∧ pl i + 1 ≠ x + 3 := fun i y z => by unfold pl; omega
  refine ⟨⟨PbK_P (fun a k q => by rw [h.2.2]) hK, ⟨⟨a1, ⟨a2.1, by rw [h.1 12 0 (by omega)]; exact a2.2⟩, a3, by rw [h.2.2]; exact a4, by rw [h.2.2]; exact a5, by rw [h.2.2]; exact a6, by rw [h.2.2]; exact a7, by rw [h.2.2]; exact a8, Row_ru h (by omega) (by omega) r14, Row_ru h (by omega) (by omega) r16, Row_ru h (by omega) (by omega) r18, Row_ru h (by omega) (by omega) r20⟩, o, w, f, v, by rw [h.2.2]; exact e1, by rw [h.2.2]; exact e2, by rw [h.2.2]; exact e3, by rw [h.2.2]; exact e4, e5, Row_ru h (by omega) (by omega) e6, Row_ru h (by omega) (by omega) e7, Row_ru h (by omega) (by omega) e8, Row_ru h (by omega) (by omega) e9⟩, Row_ru h (by omega) (by omega) hMd, fun i y z => Row_ru h (hn i y z).1 (hn i y z).2 (hPo i y z)⟩, fun i y z => h.2.1 _ (hn i y z).1 (hn i y z).2⟩
theorem VwW_ru {sh : SH} {S S' : SS} {w : Int} {kd cu : Int → Int} {x : Nat} (hx : 72 ≤ x ∧ x ≤ 92) (h : RuR x S S') (hV : VwW sh S w kd cu) : VwW sh S' w kd cu := by
  obtain ⟨v5, vb, vw⟩ := hV
  refine ⟨by rw [h.1 0 5 (by omega)]; exact v5, vb, fun i y z => ?_⟩
  obtain ⟨g1, ⟨g2, g3, g4, g5, g6, g7⟩, g8⟩ := vw i y z
  have hn : 113 ≤ wa i := by unfold wa; omega
  exact ⟨by rw [h.2.2]; exact g1, ⟨g2, g3, by rw [h.2.2]; exact g4, by rw [h.1 _ 0 (by omega)]; exact g5, by rw [h.1 _ 1 (by omega)]; exact g6, by rw [h.2.1 _ (by omega) (by omega)]; exact g7⟩, g8⟩
theorem TxP_ru {S S' : SS} {x : Nat} {X : List Int × List Int × List Int} (hx : 72 ≤ x ∧ x ≤ 92) (h : RuR x S S') (hP : TxP S x X) : TxP S' x X := by
  obtain ⟨z1, z3, ze0, ze1, ze2, zl⟩ := hP
  have e1 : S'.2.1 (x + 1) = S.2.1 (x + 1) := h.2.1 _ (by omega) (by omega)
  have e2 : S'.2.1 (x + 2) = S.2.1 (x + 2) := h.2.1 _ (by omega) (by omega)
  exact ⟨by rw [h.1 x 1 (by omega)]; exact z1, by rw [h.1 x 3 (by omega)]; exact z3, by rw [e2]; exact ze0, by rw [e2]; exact ze1, by rw [e2]; exact ze2, by rw [e1]; exact zl⟩
theorem wenv_up {E : Int → Int} {n m c k s mx : Int} (h : ∀ i : Int, ¬ (0 ≤ i ∧ i < 6) → E i = 0) (hm : mx = (if m < n then n else m)) : iup (iup (iup (iup (iup (iup E 0 n) 1 m) 2 mx) 3 c) 4 k) 5 s = wenv n m c k s := by
  funext i
  unfold wenv
  by_cases c0 : i = 0
  · subst c0; rfl
  · by_cases c1 : i = 1
    · subst c1; rfl
    · by_cases c2 : i = 2
      · subst c2; rw [hm]; rfl
      · by_cases c3 : i = 3
        · subst c3; rfl
        · by_cases c4 : i = 4
          · subst c4; rfl
          · by_cases c5 : i = 5
            · subst c5; rfl
            · rw [iup_ne c5, iup_ne c4, iup_ne c3, iup_ne c2, iup_ne c1, iup_ne c0, if_neg c0, if_neg c1, if_neg c2, if_neg c3, if_neg c4, if_neg c5]
              exact h i (by omega)
theorem wenv_out {n m c k s : Int} : ∀ i : Int, ¬ (0 ≤ i ∧ i < 6) → wenv n m c k s i = 0 := fun i hi => by
  unfold wenv
  rw [if_neg (by omega), if_neg (by omega), if_neg (by omega), if_neg (by omega), if_neg (by omega), if_neg (by omega)]
set_option maxRecDepth 100000 in
set_option maxHeartbeats 4000000 in
theorem c_X9_ruleFor {g : GC} {p ru w a b wy : Int} {kd cu : Int → Int} {sh : SH} {S : SS} {X : List Int × List Int × List Int} {n : Nat} {Q : Option Value → GA → Nat → Prop} (hW : PbW p sh S) (hV : VwW sh S w kd cu) (ha : 0 ≤ a ∧ a < 8) (hb : 0 ≤ b ∧ b < 8) (hwy : 0 ≤ wy ∧ wy < w) (hX : TxW sh S (ta ru)) (hT : TxP S (ta ru) X) (eru : S.1 0 11 = ru) (hru : 0 ≤ ru ∧ ru < 6) (hN : ∀ i : Int, ¬ (0 ≤ i ∧ i < 6) → S.2.1 10 i = 0) (hVal : Val (wenv (plen (pr S a) 32) (plen (pr S b) 32) (cu wy) (kd wy) (smf (pr S a) (pr S b))) (tprt X (wprt (kd wy))) (sayv (wenv (plen (pr S a) 32) (plen (pr S b) 32) (cu wy) (kd wy) (smf (pr S a) (pr S b))) (tprt X (wprt (kd wy))))) (hq : ∀ S' : SS, RuR (ta ru) S S' → TxW sh S' (ta ru) → (∀ i : Int, ¬ (0 ≤ i ∧ i < 6) → S'.2.1 10 i = 0) → Q (some (.int (iI (sayv (wenv (plen (pr S a) 32) (plen (pr S b) 32) (cu wy) (kd wy) (smf (pr S a) (pr S b))) (tprt X (wprt (kd wy))))))) (hp g sh S') n) : GCall g mX9_ruleFor 4 0 0 [gr g 0, .int (iI a), .int (iI b), .int (iI wy)] (hp g sh S) n Q := by
  have hW' := hW
  obtain ⟨hK, hA, hMd, hPo⟩ := hW'
  obtain ⟨k0, q0, q1, q2, q3, q4, q7, q8, q9, q12, q13, q14, s1, s4, s9, s10, s11, f1, f2, f3⟩ := hK
  have hP := hA.1.1
  have hRs := hA.1.2.1
  have hpb := hP.bd
  have h12 := hRs.1
  have h13 := hA.1.2.2.1
  have h2s := hMd.1.1
  obtain ⟨v5, vb, vw⟩ := hV
  refine GCall.of (by decide) (Nat.le_of_ble_eq_true rfl) (ls := [(0, _), (1, _), (2, _), (3, _)]) rfl ?_
  have rA := hPo a ha.1 ha.2
  have rB := hPo b hb.1 hb.2
  have eA : S.1 (pl a) 1 = plen (pr S a) 32 := rA.2.2.1
  have eB : S.1 (pl b) 1 = plen (pr S b) 32 := rB.2.2.1
  have bA := plen_bd (pr S a) 32
  have bB := plen_bd (pr S b) 32
  have hsm := smf_bd (A := pr S a) (B := pr S b)
  obtain ⟨g1, g2, g3, g4⟩ := vw wy hwy.1 hwy.2
  have tb : 72 ≤ ta ru ∧ ta ru ≤ 92 := by unfold ta; omega
  have hp2 : 0 ≤ wprt (kd wy) ∧ wprt (kd wy) ≤ 2 := by unfold wprt; repeat' split <;> omega
  have Ww : ∀ ys : Int → Int, WyW sh (putA S 10 ys) (wa wy) (kd wy) (cu wy) (wtb (kd wy) (cu wy) 32) := fun ys => ⟨g2.1, g2.2.1, g2.2.2.1, g2.2.2.2.1, g2.2.2.2.2.1, (putA_ne (by unfold wa; omega)).trans g2.2.2.2.2.2⟩
  have hIs : ∀ i : Int, IsI ((wenv (plen (pr S a) 32) (plen (pr S b) 32) (cu wy) (kd wy) (smf (pr S a) (pr S b))) i) := fun i => by
    unfold wenv IsI
    repeat' split
    all_goals omega
  have Kf : ∀ E : Int → Int, E = (wenv (plen (pr S a) 32) (plen (pr S b) 32) (cu wy) (kd wy) (smf (pr S a) (pr S b))) → G g mX9_ruleFor 4 0 0 110 [(5, .int (iI (plen (pr S b) 32))), (4, .int (iI (plen (pr S a) 32))), (0, gr g 0), (1, .int (iI a)), (2, .int (iI b)), (3, .int (iI wy))] [] (hp g sh (putA S 10 E)) n 0 0 Q := by
    intro E hE
    subst hE
    have X1 : TxW sh (putA S 10 (wenv (plen (pr S a) 32) (plen (pr S b) 32) (cu wy) (kd wy) (smf (pr S a) (pr S b)))) (ta ru) := by
      obtain ⟨hx, h1, h2, h3, p0, p2, p4, hsz, hpa, htp, hen, hst, hsk⟩ := hX
      have eA : ∀ c : Nat, 44 ≤ c → (putA S 10 (wenv (plen (pr S a) 32) (plen (pr S b) 32) (cu wy) (kd wy) (smf (pr S a) (pr S b)))).2.1 c = S.2.1 c := fun c hc => putA_ne (by omega)
      exact ⟨hx, h1, h2, h3, p0, p2, p4, hsz, hpa, htp, by rw [eA _ (by omega)]; exact hen, by rw [eA _ (by omega)]; exact hst, by rw [eA _ (by omega)]; exact hsk⟩
    have R1 : RuR (ta ru) S (putA S 10 (wenv (plen (pr S a) 32) (plen (pr S b) 32) (cu wy) (kd wy) (smf (pr S a) (pr S b)))) := ⟨fun _ _ _ => rfl, fun c hc _ => putA_ne hc, rfl⟩
    have T1 := TxP_ru tb R1 hT
    have u9 : (putA S 10 (wenv (plen (pr S a) 32) (plen (pr S b) 32) (cu wy) (kd wy) (smf (pr S a) (pr S b)))).2.2 9 ru = some (ta ru) := f2 ru hru.1 hru.2
    have hsay : ∀ S' : SS, TsR (ta ru) (putA S 10 (wenv (plen (pr S a) 32) (plen (pr S b) 32) (cu wy) (kd wy) (smf (pr S a) (pr S b)))) S' → TxW sh S' (ta ru) → Q (some (.int (iI (sayv (wenv (plen (pr S a) 32) (plen (pr S b) 32) (cu wy) (kd wy) (smf (pr S a) (pr S b))) (tprt X (wprt (kd wy))))))) (hp g sh S') n := fun S' r1 r2 => hq S' (RuR_tr R1 ⟨fun c k z => r1.1 c k z, fun c _ z => r1.2.1 c z, r1.2.2⟩) r2 (fun i hi => by rw [r1.2.1 10 (by omega), putA_at]; exact wenv_out i hi)
    refine S_aload_n (pc := 110) dX9_ruleFor_110 rfl ?_
    refine S_getR (pc := 111) dX9_ruleFor_111 fX9_37 (by assumption) rfl (by assumption) ?_
    refine S_aload_n (pc := 114) dX9_ruleFor_114 rfl ?_
    refine S_getI (pc := 115) dX9_ruleFor_115 fX9_175 (by assumption) rfl ?_
    rw [show (putA S 10 (wenv (plen (pr S a) 32) (plen (pr S b) 32) (cu wy) (kd wy) (smf (pr S a) (pr S b)))).1 0 11 = ru from eru]
    refine S_aald (pc := 118) dX9_ruleFor_118 (by assumption) rfl (by omega) (by assumption) ?_
    refine S_aload_n (pc := 119) dX9_ruleFor_119 rfl ?_
    refine S_getR (pc := 120) dX9_ruleFor_120 fX9_24 (by assumption) rfl (by assumption) ?_
    refine G_iload_n (pc := 123) dX9_ruleFor_123 rfl ?_
    refine S_aald (pc := 124) dX9_ruleFor_124 (by assumption) rfl (by omega) g1 ?_
    refine S_callV (pc := 125) (ci := 8) (d2 := 3) (mc2 := 0) (ms2 := 0) (As := []) dX9_ruleFor_125 kX8_part lkX9_295 g2.1 rfl rfl rfl (Nat.le_of_ble_eq_true rfl) ⟨by decide, by decide⟩ (by decide) ?_
    refine c_X8_part (Ww _) g3 ?_
    show G _ _ _ _ _ _ _ _ _ _ _ _ _
    refine S_aload_n (pc := 128) dX9_ruleFor_128 rfl ?_
    refine S_getR (pc := 129) dX9_ruleFor_129 fX9_41 (by assumption) rfl (by assumption) ?_
    refine S_callV (pc := 132) (ci := 7) (d2 := 3) (mc2 := 0) (ms2 := 0) (As := [_, _]) dX9_ruleFor_132 kX7_worth lkX9_298 hX.1 rfl rfl rfl (Nat.le_of_ble_eq_true rfl) ⟨by decide, by decide⟩ (by decide) ?_
    refine c_X7_worth X1 T1 hp2 s10 (by omega) putA_at hIs (hVal.1 []) (fun S' r1 r2 => ?_)
    · show G _ _ _ _ _ _ _ _ _ _ _ _ _
      refine G_iret (pc := 135) dX9_ruleFor_135 rfl (by decide) ?_
      exact hsay S' r1 r2
  refine S_aload_n (pc := 0) dX9_ruleFor_0 rfl ?_
  refine S_getR (pc := 1) dX9_ruleFor_1 fX9_11 (by assumption) rfl (by assumption) ?_
  refine G_iload_n (pc := 4) dX9_ruleFor_4 rfl ?_
  refine S_aald (pc := 5) dX9_ruleFor_5 (by assumption) rfl (by omega) (f1 _ ha.1 ha.2) ?_
  refine S_callV (pc := 6) (ci := 4) (d2 := 1) (mc2 := 0) (ms2 := 0) (As := []) dX9_ruleFor_6 kX4_length lkX9_127 rA.1.1 rfl rfl rfl (Nat.le_of_ble_eq_true rfl) ⟨by decide, by decide⟩ (by decide) ?_
  refine c_X4_length rA.1 ?_
  rw [eA]
  show G _ _ _ _ _ _ _ _ _ _ _ _ _
  refine G_istore (pc := 9) (ls' := [(4, _), (0, _), (1, _), (2, _), (3, _)]) dX9_ruleFor_9 (by decide) rfl ?_
  refine S_aload_n (pc := 11) dX9_ruleFor_11 rfl ?_
  refine S_getR (pc := 12) dX9_ruleFor_12 fX9_11 (by assumption) rfl (by assumption) ?_
  refine G_iload_n (pc := 15) dX9_ruleFor_15 rfl ?_
  refine S_aald (pc := 16) dX9_ruleFor_16 (by assumption) rfl (by omega) (f1 _ hb.1 hb.2) ?_
  refine S_callV (pc := 17) (ci := 4) (d2 := 1) (mc2 := 0) (ms2 := 0) (As := []) dX9_ruleFor_17 kX4_length lkX9_127 rB.1.1 rfl rfl rfl (Nat.le_of_ble_eq_true rfl) ⟨by decide, by decide⟩ (by decide) ?_
  refine c_X4_length rB.1 ?_
  rw [eB]
  show G _ _ _ _ _ _ _ _ _ _ _ _ _
  refine G_istore (pc := 20) (ls' := [(5, _), (4, _), (0, _), (1, _), (2, _), (3, _)]) dX9_ruleFor_20 (by decide) rfl ?_
  refine S_aload_n (pc := 22) dX9_ruleFor_22 rfl ?_
  refine S_getR (pc := 23) dX9_ruleFor_23 fX9_41 (by assumption) rfl (by assumption) ?_
  refine G_iconst (pc := 26) dX9_ruleFor_26 ?_
  refine G_iload (pc := 27) dX9_ruleFor_27 rfl ?_
  refine S_iast (pc := 29) dX9_ruleFor_29 (by assumption) (by omega) ?_
  rw [show setA S 10 0 (plen (pr S a) 32) = putA S 10 (iup (S.2.1 10) 0 (plen (pr S a) 32)) from rfl]
  refine S_aload_n (pc := 30) dX9_ruleFor_30 rfl ?_
  refine S_getR (pc := 31) dX9_ruleFor_31 fX9_41 (by assumption) rfl (by assumption) ?_
  refine G_iconst (pc := 34) dX9_ruleFor_34 ?_
  refine G_iload (pc := 35) dX9_ruleFor_35 rfl ?_
  refine S_iast (pc := 37) dX9_ruleFor_37 (by assumption) (by omega) ?_
  rw [setA_putA]
  refine S_aload_n (pc := 38) dX9_ruleFor_38 rfl ?_
  refine S_getR (pc := 39) dX9_ruleFor_39 fX9_41 (by assumption) rfl (by assumption) ?_
  refine G_iconst (pc := 42) dX9_ruleFor_42 ?_
  refine G_iload (pc := 43) dX9_ruleFor_43 rfl ?_
  refine G_iload (pc := 45) dX9_ruleFor_45 rfl ?_
  refine G_callS (pc := 47) (d2 := 1) (mc2 := 0) (ms2 := 0) (As := [_, _]) dX9_ruleFor_47 kJ9_max_7cf53 lkX9_287 rfl rfl (Nat.le_of_ble_eq_true rfl) ⟨by decide, by decide⟩ (by decide) ?_
  refine c_J9_max (by omega) ?_
  show G _ _ _ _ _ _ _ _ _ _ _ _ _
  refine S_iast (pc := 50) dX9_ruleFor_50 (by assumption) (by omega) ?_
  rw [setA_putA]
  refine S_aload_n (pc := 51) dX9_ruleFor_51 rfl ?_
  refine S_getR (pc := 52) dX9_ruleFor_52 fX9_41 (by assumption) rfl (by assumption) ?_
  refine G_iconst (pc := 55) dX9_ruleFor_55 ?_
  refine S_aload_n (pc := 56) dX9_ruleFor_56 rfl ?_
  refine S_getR (pc := 57) dX9_ruleFor_57 fX9_24 (by assumption) rfl (by assumption) ?_
  refine G_iload_n (pc := 60) dX9_ruleFor_60 rfl ?_
  refine S_aald (pc := 61) dX9_ruleFor_61 (by assumption) rfl (by omega) g1 ?_
  refine S_callV (pc := 62) (ci := 8) (d2 := 1) (mc2 := 0) (ms2 := 0) (As := []) dX9_ruleFor_62 kX8_cut lkX9_273 g2.1 rfl rfl rfl (Nat.le_of_ble_eq_true rfl) ⟨by decide, by decide⟩ (by decide) ?_
  refine c_X8_cut (Ww _) ?_
  show G _ _ _ _ _ _ _ _ _ _ _ _ _
  refine S_iast (pc := 65) dX9_ruleFor_65 (by assumption) (by omega) ?_
  rw [setA_putA]
  refine S_aload_n (pc := 66) dX9_ruleFor_66 rfl ?_
  refine S_getR (pc := 67) dX9_ruleFor_67 fX9_41 (by assumption) rfl (by assumption) ?_
  refine G_iconst (pc := 70) dX9_ruleFor_70 ?_
  refine S_aload_n (pc := 71) dX9_ruleFor_71 rfl ?_
  refine S_getR (pc := 72) dX9_ruleFor_72 fX9_24 (by assumption) rfl (by assumption) ?_
  refine G_iload_n (pc := 75) dX9_ruleFor_75 rfl ?_
  refine S_aald (pc := 76) dX9_ruleFor_76 (by assumption) rfl (by omega) g1 ?_
  refine S_callV (pc := 77) (ci := 8) (d2 := 1) (mc2 := 0) (ms2 := 0) (As := []) dX9_ruleFor_77 kX8_kind lkX9_292 g2.1 rfl rfl rfl (Nat.le_of_ble_eq_true rfl) ⟨by decide, by decide⟩ (by decide) ?_
  refine c_X8_kind (Ww _) ?_
  show G _ _ _ _ _ _ _ _ _ _ _ _ _
  refine S_iast (pc := 80) dX9_ruleFor_80 (by assumption) (by omega) ?_
  rw [setA_putA]
  refine S_aload_n (pc := 81) dX9_ruleFor_81 rfl ?_
  refine S_getR (pc := 82) dX9_ruleFor_82 fX9_41 (by assumption) rfl (by assumption) ?_
  refine G_iconst (pc := 85) dX9_ruleFor_85 ?_
  refine S_aload_n (pc := 86) dX9_ruleFor_86 rfl ?_
  refine S_getR (pc := 87) dX9_ruleFor_87 fX9_11 (by assumption) rfl (by assumption) ?_
  refine G_iload_n (pc := 90) dX9_ruleFor_90 rfl ?_
  refine S_aald (pc := 91) dX9_ruleFor_91 (by assumption) rfl (by omega) (f1 _ ha.1 ha.2) ?_
  refine S_aload_n (pc := 92) dX9_ruleFor_92 rfl ?_
  refine S_getR (pc := 93) dX9_ruleFor_93 fX9_11 (by assumption) rfl (by assumption) ?_
  refine G_iload_n (pc := 96) dX9_ruleFor_96 rfl ?_
  refine S_aald (pc := 97) dX9_ruleFor_97 (by assumption) rfl (by omega) (f1 _ hb.1 hb.2) ?_
  refine S_callV (pc := 98) (ci := 4) (d2 := 2) (mc2 := 0) (ms2 := 0) (As := [_]) dX9_ruleFor_98 kX4_isLike lkX9_276 rA.1.1 rfl rfl rfl (Nat.le_of_ble_eq_true rfl) ⟨by decide, by decide⟩ (by decide) ?_
  refine c_X4_isLike (Row_pA rA (by unfold pl; omega)) (Row_pA rB (by unfold pl; omega)) (by omega) (fun z _ => ?_) (fun z => ?_) rfl
  · show G _ _ _ _ _ _ _ _ _ _ _ _ _
    refine G_if_eq_f (pc := 101) 108 dX9_ruleFor_101 rfl (by decide) (by decide) ?_
    refine G_iconst (pc := 104) dX9_ruleFor_104 ?_
    refine G_goto (pc := 105) 109 dX9_ruleFor_105 rfl ?_
    refine S_iast (pc := 109) dX9_ruleFor_109 (by assumption) (by omega) ?_
    rw [setA_putA]
    first
      | exact Kf _ (by rw [smf_1 (A := pr S a) (B := pr S b) ((show rv (putA S 10 _) (pl a) = pr S a from putA_ne (by unfold pl; omega)).symm.trans (z.trans (putA_ne (by unfold pl; omega))))]; exact wenv_up hN (by split <;> split <;> omega))
      | exact Kf _ (by rw [smf_0 (A := pr S a) (B := pr S b) (fun q => z ((show rv (putA S 10 _) (pl a) = pr S a from putA_ne (by unfold pl; omega)).trans (q.trans (show rv (putA S 10 _) (pl b) = pr S b from putA_ne (by unfold pl; omega)).symm)))]; exact wenv_up hN (by split <;> split <;> omega))
  · show G _ _ _ _ _ _ _ _ _ _ _ _ _
    refine G_if_eq_t (pc := 101) 108 dX9_ruleFor_101 rfl (by decide) (by decide) ?_
    refine G_iconst (pc := 108) dX9_ruleFor_108 ?_
    refine S_iast (pc := 109) dX9_ruleFor_109 (by assumption) (by omega) ?_
    rw [setA_putA]
    first
      | exact Kf _ (by rw [smf_1 (A := pr S a) (B := pr S b) ((show rv (putA S 10 _) (pl a) = pr S a from putA_ne (by unfold pl; omega)).symm.trans (z.trans (putA_ne (by unfold pl; omega))))]; exact wenv_up hN (by split <;> split <;> omega))
      | exact Kf _ (by rw [smf_0 (A := pr S a) (B := pr S b) (fun q => z ((show rv (putA S 10 _) (pl a) = pr S a from putA_ne (by unfold pl; omega)).trans (q.trans (show rv (putA S 10 _) (pl b) = pr S b from putA_ne (by unfold pl; omega)).symm)))]; exact wenv_up hN (by split <;> split <;> omega))
