/-! the Model: cofactor, compose -/
noncomputable def mG (p : Int) (a b : Int → Int) (t : Nat) : Int → Int := pscal p (inv p ((mu p a b t).1 (plen (mu p a b t).1 80 - 1))) (mu p a b t).1
noncomputable def mU (p : Int) (a b : Int → Int) (t : Nat) : Int → Int := if plen (mu p a b t).1 80 = 0 then (mu p a b t).2.2.1 else pscal p (inv p ((mu p a b t).1 (plen (mu p a b t).1 80 - 1))) (mu p a b t).2.2.1
noncomputable def mU1 (p : Int) (a b : Int → Int) (t : Nat) : Int → Int := if plen (mG p a b t) 80 = 0 then pz else mU p a b t
noncomputable def mC (p : Int) (a b : Int → Int) (t : Nat) : Int → Int := (pdiv p b (mG p a b t) (plen b 80) (plen (mG p a b t) 80)).1
noncomputable def mX (p : Int) (a b : Int → Int) (t : Nat) : Int → Int := if 0 < plen b 80 then (pdiv p (mU1 p a b t) (mC p a b t) (plen (mU1 p a b t) 80) (plen (mC p a b t) 80)).2 else mU1 p a b t
def MuT (p : Int) (a b : Int → Int) (t : Nat) : Prop := (∀ s : Nat, s < t → 0 < plen (mu p a b s).2.1 80) ∧ plen (mu p a b t).2.1 80 = 0
set_option maxRecDepth 100000 in
set_option maxHeartbeats 4000000 in
theorem c_X10_cofactor {g : GC} {p t0 a b : Int} {sh : SH} {S : SS} {n : Nat} {Q : Option Value → GA → Nat → Prop} (hW : MdW p sh S) (hr : (-2147483648 ≤ t0 ∧ t0 ≤ 2147483647) ∧ (-2147483648 ≤ a ∧ a ≤ 2147483647) ∧ (-2147483648 ≤ b ∧ b ≤ 2147483647)) (h0 : ¬ ((0 ≤ t0 ∧ t0 < 8) ∧ (0 ≤ a ∧ a < 8) ∧ (0 ≤ b ∧ b < 8)) → Q (some (.int (iI (-2)))) (hp g sh S) n)
    (hroom : (0 ≤ a ∧ a < 8) → (0 ≤ b ∧ b < 8) → ∀ t : Nat, (∀ s : Nat, s ≤ t → 0 < plen (mu p (mg S a) (mg S b) s).2.1 80) → plen (pdiv p (mu p (mg S a) (mg S b) t).1 (mu p (mg S a) (mg S b) t).2.1 (plen (mu p (mg S a) (mg S b) t).1 80) (plen (mu p (mg S a) (mg S b) t).2.1 80)).1 80 + plen (mu p (mg S a) (mg S b) t).2.2.2 80 ≤ 81)
    (hG : (0 ≤ a ∧ a < 8) → (0 ≤ b ∧ b < 8) → ∀ t : Nat, MuT p (mg S a) (mg S b) t → 0 < plen (mg S b) 80 → 0 < plen (mG p (mg S a) (mg S b) t) 80 ∧ 0 < plen (mC p (mg S a) (mg S b) t) 80)
    (h1 : (0 ≤ t0 ∧ t0 < 8) → (0 ≤ a ∧ a < 8) → (0 ≤ b ∧ b < 8) → ∀ (t : Nat) (S' : SS), MRel S S' → MdW p sh S' → MuT p (mg S a) (mg S b) t → Red p (mX p (mg S a) (mg S b) t) → Q (some (.int (iI (plen (mX p (mg S a) (mg S b) t) 80)))) (hp g sh (mset S' t0 (mX p (mg S a) (mg S b) t))) n) :
    GCall g mX10_cofactor 6 0 0 [gr g 96, .int (iI t0), .int (iI a), .int (iI b)] (hp g sh S) n Q := by
  have hW' := hW
  obtain ⟨hP, h96, hp1, p2, h97, hred⟩ := hW'
  have hpb := hP.bd
  obtain ⟨hr1, hr2, hr3⟩ := hr
  refine GCall.of (by decide) (Nat.le_of_ble_eq_true rfl) (ls := [(0, _), (1, _), (2, _), (3, _)]) rfl ?_
  have hlast : (0 ≤ t0 ∧ t0 < 8) → (0 ≤ a ∧ a < 8) → (0 ≤ b ∧ b < 8) → ∀ (t : Nat) (S1 : SS), MRel S S1 → MdW p sh S1 → MuT p (mg S a) (mg S b) t → mg S1 12 = mX p (mg S a) (mg S b) t → G g mX10_cofactor 6 0 0 75 [(0, gr g 96), (1, .int (iI t0)), (2, .int (iI a)), (3, .int (iI b))] [] (hp g sh S1) n 0 0 Q := by
    intro ht ha hb t S1 hR W1 hT v12
    have h96' := W1.2.1
    have hx : Red p (mX p (mg S a) (mg S b) t) := by rw [← v12]; exact mg_red W1
    refine S_aload_n (pc := 75) dX10_cofactor_75 rfl ?_
    refine G_iload_n (pc := 76) dX10_cofactor_76 rfl ?_
    refine G_bipush (pc := 77) dX10_cofactor_77 rfl ?_
    refine S_callV (pc := 79) (ci := 10) (d2 := 2) (mc2 := 0) (ms2 := 0) (As := [_, _]) dX10_cofactor_79 kX10_comes lkX10_109 (by assumption) rfl rfl rfl (Nat.le_of_ble_eq_true rfl) ⟨by decide, by decide⟩ (by decide) ?_
    refine c_X10_comes W1 (by omega) (by omega) ?_
    rw [v12]
    show G _ _ _ _ _ _ _ _ _ _ _ _ _
    refine G_iret (pc := 82) dX10_cofactor_82 rfl (by decide) ?_
    exact h1 ht ha hb t S1 hR W1 hT hx
  have hsec : (0 ≤ t0 ∧ t0 < 8) → (0 ≤ a ∧ a < 8) → (0 ≤ b ∧ b < 8) → ∀ (t : Nat) (S1 : SS), MRel S S1 → MdW p sh S1 → MuT p (mg S a) (mg S b) t → 0 < plen (mg S b) 80 → 0 < plen (mC p (mg S a) (mg S b) t) 80 → mg S1 12 = mU1 p (mg S a) (mg S b) t → mg S1 10 = mC p (mg S a) (mg S b) t → G g mX10_cofactor 6 0 0 65 [(0, gr g 96), (1, .int (iI t0)), (2, .int (iI a)), (3, .int (iI b))] [] (hp g sh S1) n 0 0 Q := by
    intro ht ha hb t S1 hR W1 hT hbl hC v12 v10
    have h96' := W1.2.1
    obtain ⟨hD0, hun⟩ := pdiv_80 hP (mg_red (r := 12) W1) mg_sup (mg_red (r := 10) W1) mg_sup (by rw [v10]; exact hC)
    rw [v12, v10] at hun hD0
    have hb12 := plen_bd (mU1 p (mg S a) (mg S b) t) 80
    have hb10 := plen_bd (mC p (mg S a) (mg S b) t) 80
    refine S_aload_n (pc := 65) dX10_cofactor_65 rfl ?_
    refine G_bipush (pc := 66) dX10_cofactor_66 rfl ?_
    refine G_bipush (pc := 68) dX10_cofactor_68 rfl ?_
    refine G_bipush (pc := 70) dX10_cofactor_70 rfl ?_
    refine S_callV (pc := 72) (ci := 10) (d2 := 4) (mc2 := 0) (ms2 := 0) (As := [_, _, _]) dX10_cofactor_72 kX10_divideRows lkX10_269 (by assumption) rfl rfl rfl (Nat.le_of_ble_eq_true rfl) ⟨by decide, by decide⟩ (by decide) ?_
    refine c_X10_divideRows W1 (by omega) (by omega) (by omega) (by decide) (by decide) (by decide) (by rw [v10]; exact hC) (fun qq r hD => ?_)
    rw [v12, v10] at hD
    have hrs : Sup r 80 := fun j hj => hD.2.2.2.1 j (by omega)
    exact hlast ht ha hb t _ (MRel_set (MRel_set hR (by decide)) (by decide)) (MdW_set (MdW_set W1 hD.1) hD.2.1) hT ((mg_set hrs).trans ((hun qq r hD).2.trans (if_pos hbl).symm))
  have hmid : (0 ≤ t0 ∧ t0 < 8) → (0 ≤ a ∧ a < 8) → (0 ≤ b ∧ b < 8) → ∀ (t : Nat) (S1 : SS), MRel S S1 → MdW p sh S1 → MuT p (mg S a) (mg S b) t → mg S1 12 = mU1 p (mg S a) (mg S b) t → mg S1 8 = mG p (mg S a) (mg S b) t → G g mX10_cofactor 6 0 0 40 [(0, gr g 96), (1, .int (iI t0)), (2, .int (iI a)), (3, .int (iI b))] [] (hp g sh S1) n 0 0 Q := by
    intro ht ha hb t S1 hR W1 hT v12 v8
    have h96' := W1.2.1
    have vb : mg S1 b = mg S b := hR.2.2.2 b (by omega) (by omega)
    have hbb := plen_bd (mg S b) 80
    by_cases hbl : 0 < plen (mg S b) 80
    · obtain ⟨hg, hC⟩ := hG ha hb t hT hbl
      have W3 : MdW p sh (mset S1 9 (mg S b)) := MdW_set W1 (mg_red hW)
      have w9 : mg (mset S1 9 (mg S b)) 9 = mg S b := mg_set mg_sup
      have w8 : mg (mset S1 9 (mg S b)) 8 = mG p (mg S a) (mg S b) t := by rw [mg_ne (by decide), v8]
      obtain ⟨hD0, hun⟩ := pdiv_80 hP (mg_red (r := 9) W3) mg_sup (mg_red (r := 8) W3) mg_sup (by rw [w8]; exact hg)
      rw [w9, w8] at hun hD0
      refine S_aload_n (pc := 40) dX10_cofactor_40 rfl ?_
      refine G_iload_n (pc := 41) dX10_cofactor_41 rfl ?_
      refine S_callV (pc := 42) (ci := 10) (d2 := 1) (mc2 := 0) (ms2 := 0) (As := [_]) dX10_cofactor_42 kX10_length lkX10_94 (by assumption) rfl rfl rfl (Nat.le_of_ble_eq_true rfl) ⟨by decide, by decide⟩ (by decide) ?_
      refine c_X10_length W1 (by omega) ?_
      rw [vb]
      show G _ _ _ _ _ _ _ _ _ _ _ _ _
      refine G_if_le_f (pc := 45) 75 dX10_cofactor_45 rfl (by omega) (by omega) ?_
      refine S_aload_n (pc := 48) dX10_cofactor_48 rfl ?_
      refine G_iload_n (pc := 49) dX10_cofactor_49 rfl ?_
      refine G_bipush (pc := 50) dX10_cofactor_50 rfl ?_
      refine S_callV (pc := 52) (ci := 10) (d2 := 1) (mc2 := 0) (ms2 := 0) (As := [_, _]) dX10_cofactor_52 kX10_copy lkX10_90 (by assumption) rfl rfl rfl (Nat.le_of_ble_eq_true rfl) ⟨by decide, by decide⟩ (by decide) ?_
      refine c_X10_copy W1 (by omega) (by omega) ?_
      rw [vb]
      show G _ _ _ _ _ _ _ _ _ _ _ _ _
      refine S_aload_n (pc := 55) dX10_cofactor_55 rfl ?_
      refine G_bipush (pc := 56) dX10_cofactor_56 rfl ?_
      refine G_bipush (pc := 58) dX10_cofactor_58 rfl ?_
      refine G_bipush (pc := 60) dX10_cofactor_60 rfl ?_
      refine S_callV (pc := 62) (ci := 10) (d2 := 4) (mc2 := 0) (ms2 := 0) (As := [_, _, _]) dX10_cofactor_62 kX10_divideRows lkX10_269 (by assumption) rfl rfl rfl (Nat.le_of_ble_eq_true rfl) ⟨by decide, by decide⟩ (by decide) ?_
      refine c_X10_divideRows W3 (by omega) (by omega) (by omega) (by decide) (by decide) (by decide) (by rw [w8]; exact hg) (fun qq r hD => ?_)
      rw [w9, w8] at hD
      have hqs : Sup qq 80 := fun j hj => hD.2.2.2.2 j (by omega)
      exact hsec ht ha hb t _ (MRel_set (MRel_set (MRel_set hR (by decide)) (by decide)) (by decide)) (MdW_set (MdW_set W3 hD.1) hD.2.1) hT hbl hC (by rw [mg_ne (by decide), mg_ne (by decide), mg_ne (by decide), v12]) (by rw [mg_ne (by decide), mg_set hqs]; exact (hun qq r hD).1)
    · skip
      refine S_aload_n (pc := 40) dX10_cofactor_40 rfl ?_
      refine G_iload_n (pc := 41) dX10_cofactor_41 rfl ?_
      refine S_callV (pc := 42) (ci := 10) (d2 := 1) (mc2 := 0) (ms2 := 0) (As := [_]) dX10_cofactor_42 kX10_length lkX10_94 (by assumption) rfl rfl rfl (Nat.le_of_ble_eq_true rfl) ⟨by decide, by decide⟩ (by decide) ?_
      refine c_X10_length W1 (by omega) ?_
      rw [vb]
      show G _ _ _ _ _ _ _ _ _ _ _ _ _
      refine G_if_le_t (pc := 45) 75 dX10_cofactor_45 rfl (by omega) (by omega) ?_
      exact hlast ht ha hb t S1 hR W1 hT (v12.trans (if_neg hbl).symm)
  have hgo : (0 ≤ t0 ∧ t0 < 8) → (0 ≤ a ∧ a < 8) → (0 ≤ b ∧ b < 8) → ∀ (t : Nat) (S' : SS), MRel S S' → MdW p sh S' → MuT p (mg S a) (mg S b) t → mg S' 8 = mG p (mg S a) (mg S b) t → mg S' 12 = mU p (mg S a) (mg S b) t → G g mX10_cofactor 6 0 0 25 [(0, gr g 96), (1, .int (iI t0)), (2, .int (iI a)), (3, .int (iI b))] [] (hp g sh S') n 0 0 Q := by
    intro ht ha hb t S' hR W2 hT v8 v12
    have h96' := W2.2.1
    have hbg := plen_bd (mG p (mg S a) (mg S b) t) 80
    by_cases hg : plen (mG p (mg S a) (mg S b) t) 80 = 0
    · skip
      refine S_aload_n (pc := 25) dX10_cofactor_25 rfl ?_
      refine G_bipush (pc := 26) dX10_cofactor_26 rfl ?_
      refine S_callV (pc := 28) (ci := 10) (d2 := 1) (mc2 := 0) (ms2 := 0) (As := [_]) dX10_cofactor_28 kX10_length lkX10_94 (by assumption) rfl rfl rfl (Nat.le_of_ble_eq_true rfl) ⟨by decide, by decide⟩ (by decide) ?_
      refine c_X10_length W2 (by omega) ?_
      rw [v8]
      show G _ _ _ _ _ _ _ _ _ _ _ _ _
      refine G_if_ne_f (pc := 31) 40 dX10_cofactor_31 rfl (by omega) (by omega) ?_
      refine S_aload_n (pc := 34) dX10_cofactor_34 rfl ?_
      refine G_bipush (pc := 35) dX10_cofactor_35 rfl ?_
      refine S_callV (pc := 37) (ci := 10) (d2 := 1) (mc2 := 0) (ms2 := 0) (As := [_]) dX10_cofactor_37 kX10_empty lkX10_105 (by assumption) rfl rfl rfl (Nat.le_of_ble_eq_true rfl) ⟨by decide, by decide⟩ (by decide) ?_
      refine c_X10_empty W2 (by omega) ?_
      show G _ _ _ _ _ _ _ _ _ _ _ _ _
      exact hmid ht ha hb t _ (MRel_set hR (by decide)) (MdW_set W2 (Red_pz (by omega))) hT ((mg_set Sup_pz).trans (if_pos hg).symm) ((mg_ne (by decide)).trans v8)
    · skip
      refine S_aload_n (pc := 25) dX10_cofactor_25 rfl ?_
      refine G_bipush (pc := 26) dX10_cofactor_26 rfl ?_
      refine S_callV (pc := 28) (ci := 10) (d2 := 1) (mc2 := 0) (ms2 := 0) (As := [_]) dX10_cofactor_28 kX10_length lkX10_94 (by assumption) rfl rfl rfl (Nat.le_of_ble_eq_true rfl) ⟨by decide, by decide⟩ (by decide) ?_
      refine c_X10_length W2 (by omega) ?_
      rw [v8]
      show G _ _ _ _ _ _ _ _ _ _ _ _ _
      refine G_if_ne_t (pc := 31) 40 dX10_cofactor_31 rfl (by omega) (by omega) ?_
      exact hmid ht ha hb t S' hR W2 hT (v12.trans (if_neg hg).symm) v8
  refine G_iload_n (pc := 0) dX10_cofactor_0 rfl ?_
  refine G_callS (pc := 1) (d2 := 2) (mc2 := 0) (ms2 := 0) (As := [_]) dX10_cofactor_1 kX10_isPoly lkX10_98 rfl rfl (Nat.le_of_ble_eq_true rfl) ⟨by decide, by decide⟩ (by decide) ?_
  refine c_X10_isPoly (by omega) (fun w1 => ?_) (fun w1 => ?_)
  · show G _ _ _ _ _ _ _ _ _ _ _ _ _
    refine G_if_eq_f (pc := 4) 16 dX10_cofactor_4 rfl (by decide) (by decide) ?_
    refine S_aload_n (pc := 7) dX10_cofactor_7 rfl ?_
    refine G_iload_n (pc := 8) dX10_cofactor_8 rfl ?_
    refine G_iload_n (pc := 9) dX10_cofactor_9 rfl ?_
    refine S_callV (pc := 10) (ci := 10) (d2 := 3) (mc2 := 0) (ms2 := 0) (As := [_, _]) dX10_cofactor_10 kX10_areBad lkX10_133 (by assumption) rfl rfl rfl (Nat.le_of_ble_eq_true rfl) ⟨by decide, by decide⟩ (by decide) ?_
    refine c_X10_areBad h96 (by omega) (fun w10 => ?_) (fun w10 => ?_)
    · show G _ _ _ _ _ _ _ _ _ _ _ _ _
      refine G_if_eq_f (pc := 13) 19 dX10_cofactor_13 rfl (by decide) (by decide) ?_
      refine G_bipush (pc := 16) dX10_cofactor_16 rfl ?_
      refine G_iret (pc := 18) dX10_cofactor_18 rfl (by decide) ?_
      exact h0 (by omega)
    · show G _ _ _ _ _ _ _ _ _ _ _ _ _
      refine G_if_eq_t (pc := 13) 19 dX10_cofactor_13 rfl (by decide) (by decide) ?_
      refine S_aload_n (pc := 19) dX10_cofactor_19 rfl ?_
      refine G_iload_n (pc := 20) dX10_cofactor_20 rfl ?_
      refine G_iload_n (pc := 21) dX10_cofactor_21 rfl ?_
      refine S_callV (pc := 22) (ci := 10) (d2 := 5) (mc2 := 0) (ms2 := 0) (As := [_, _]) dX10_cofactor_22 kX10_common lkX10_275 (by assumption) rfl rfl rfl (Nat.le_of_ble_eq_true rfl) ⟨by decide, by decide⟩ (by decide) ?_
      refine c_X10_common hW (by omega) (by omega) (hroom (by omega) (by omega)) (fun t S' hR W2 hs he v8 v12 => ?_)
      exact hgo (by omega) (by omega) (by omega) t S' hR W2 ⟨hs, he⟩ v8 v12
  · show G _ _ _ _ _ _ _ _ _ _ _ _ _
    refine G_if_eq_t (pc := 4) 16 dX10_cofactor_4 rfl (by decide) (by decide) ?_
    refine G_bipush (pc := 16) dX10_cofactor_16 rfl ?_
    refine G_iret (pc := 18) dX10_cofactor_18 rfl (by decide) ?_
    exact h0 (by omega)
