/-! the Model: divide, common, gcd -/
theorem mg_z {S : SS} {r : Int} {L : Int} (h : L = plen (mg S r) 80) : ∀ j : Int, (j < 0 ∨ L ≤ j) → mg S r j = 0 := fun j hj => hj.elim (fun h => mg_sup j (Or.inl h)) (fun h' => Sup_len mg_sup (by omega))
theorem pdiv_80 {p : Int} {a b : Int → Int} (hP : IsP p) (ha : Red p a) (has : Sup a 80) (hb : Red p b) (hbs : Sup b 80) (hm : 0 < plen b 80) : DivS p a b (pdiv p a b (plen a 80) (plen b 80)).1 (pdiv p a b (plen a 80) (plen b 80)).2 (plen a 80) (plen b 80) ∧ ∀ q r : Int → Int, DivS p a b q r (plen a 80) (plen b 80) → q = (pdiv p a b (plen a 80) (plen b 80)).1 ∧ r = (pdiv p a b (plen a 80) (plen b 80)).2 := by
  have haz : ∀ j : Int, (j < 0 ∨ plen a 80 ≤ j) → a j = 0 := fun j hj => hj.elim (fun h => has j (Or.inl h)) (fun h => Sup_len has h)
  have hbz : ∀ j : Int, (j < 0 ∨ plen b 80 ≤ j) → b j = 0 := fun j hj => hj.elim (fun h => hbs j (Or.inl h)) (fun h => Sup_len hbs h)
  have h1 := pdiv_S (la := plen a 80) hP hm ha haz hb hbz (plen_lead hm)
  exact ⟨h1, fun q r hD => DivS_uniq hP hm hb hbz (plen_lead hm) hD h1⟩
set_option maxRecDepth 100000 in
set_option maxHeartbeats 4000000 in
theorem c_X10_divide {g : GC} {p t a b fl : Int} {sh : SH} {S : SS} {n : Nat} {Q : Option Value → GA → Nat → Prop} (hW : MdW p sh S) (hr : (-2147483648 ≤ t ∧ t ≤ 2147483647) ∧ (-2147483648 ≤ a ∧ a ≤ 2147483647) ∧ (-2147483648 ≤ b ∧ b ≤ 2147483647) ∧ (0 ≤ fl ∧ fl ≤ 1)) (h0 : ¬ ((0 ≤ t ∧ t < 8) ∧ (0 ≤ a ∧ a < 8) ∧ (0 ≤ b ∧ b < 8)) → Q (some (.int (iI (-2)))) (hp g sh S) n)
    (h1 : (0 ≤ t ∧ t < 8) → (0 ≤ a ∧ a < 8) → (0 ≤ b ∧ b < 8) → plen (mg S b) 80 = 0 → Q (some (.int (iI (-3)))) (hp g sh S) n)
    (h2 : (0 ≤ t ∧ t < 8) → (0 ≤ a ∧ a < 8) → (0 ≤ b ∧ b < 8) → plen (mg S b) 80 ≠ 0 → ∀ S' : SS, MRel S S' → MdW p sh S' → ∀ x : Int → Int, x = (if fl = 0 then (pdiv p (mg S a) (mg S b) (plen (mg S a) 80) (plen (mg S b) 80)).1 else (pdiv p (mg S a) (mg S b) (plen (mg S a) 80) (plen (mg S b) 80)).2) → Q (some (.int (iI (plen x 80)))) (hp g sh (mset S' t x)) n) :
    GCall g mX10_divide 5 0 0 [gr g 96, .int (iI t), .int (iI a), .int (iI b), .int (iI fl)] (hp g sh S) n Q := by
  have hW' := hW
  obtain ⟨hP, h96, hp1, p2, h97, hred⟩ := hW'
  have hpb := hP.bd
  obtain ⟨hr1, hr2, hr3, hr4⟩ := hr
  refine GCall.of (by decide) (Nat.le_of_ble_eq_true rfl) (ls := [(0, _), (1, _), (2, _), (3, _), (4, _)]) rfl ?_
  have hgo : (0 ≤ t ∧ t < 8) → (0 ≤ a ∧ a < 8) → (0 ≤ b ∧ b < 8) → plen (mg S b) 80 ≠ 0 → G g mX10_divide 5 0 0 30 [(0, gr g 96), (1, .int (iI t)), (2, .int (iI a)), (3, .int (iI b)), (4, .int (iI fl))] [] (hp g sh S) n 0 0 Q := by
    intro ht ha hb hbl
    have hbb := plen_bd (mg S b) 80
    have W1 : MdW p sh (mset S 8 (mg S a)) := MdW_set hW (mg_red hW)
    have W2 : MdW p sh (mset (mset S 8 (mg S a)) 9 (mg S b)) := MdW_set W1 (mg_red hW)
    have v8 : mg (mset (mset S 8 (mg S a)) 9 (mg S b)) 8 = mg S a := by rw [mg_ne (by decide), mg_set mg_sup]
    have v9 : mg (mset (mset S 8 (mg S a)) 9 (mg S b)) 9 = mg S b := mg_set mg_sup
    obtain ⟨hD0, hun⟩ := pdiv_80 hP (mg_red (r := a) hW) mg_sup (mg_red (r := b) hW) mg_sup (by omega)
    have hfin : ∀ qq r : Int → Int, DivS p (mg S a) (mg S b) qq r (plen (mg S a) 80) (plen (mg S b) 80) → G g mX10_divide 5 0 0 54 [(0, gr g 96), (1, .int (iI t)), (2, .int (iI a)), (3, .int (iI b)), (4, .int (iI fl))] [] (hp g sh (mset (mset (mset (mset S 8 (mg S a)) 9 (mg S b)) 10 qq) 8 r)) n 0 0 Q := by
      intro qq r hD
      obtain ⟨eq, er⟩ := hun qq r hD
      have hba := plen_bd (mg S a) 80
      have hqs : Sup qq 80 := fun j hj => hD.2.2.2.2 j (by omega)
      have hrs : Sup r 80 := fun j hj => hD.2.2.2.1 j (by omega)
      have W4 : MdW p sh (mset (mset (mset (mset S 8 (mg S a)) 9 (mg S b)) 10 qq) 8 r) := MdW_set (MdW_set W2 hD.1) hD.2.1
      have R4 : MRel S (mset (mset (mset (mset S 8 (mg S a)) 9 (mg S b)) 10 qq) 8 r) := MRel_set (MRel_set (MRel_set (MRel_set MRel_rf (by decide)) (by decide)) (by decide)) (by decide)
      have v10 : mg (mset (mset (mset (mset S 8 (mg S a)) 9 (mg S b)) 10 qq) 8 r) 10 = qq := by rw [mg_ne (by decide), mg_set hqs]
      have v8' : mg (mset (mset (mset (mset S 8 (mg S a)) 9 (mg S b)) 10 qq) 8 r) 8 = r := mg_set hrs
      refine S_aload_n (pc := 54) dX10_divide_54 rfl ?_
      refine G_iload_n (pc := 55) dX10_divide_55 rfl ?_
      refine G_iload (pc := 56) dX10_divide_56 rfl ?_
      refine G_if_eq (pc := 58) 66 dX10_divide_58 rfl (by omega) (fun c58 => ?_) (fun c58 => ?_)
      · skip
        refine G_bipush (pc := 66) dX10_divide_66 rfl ?_
        refine S_callV (pc := 68) (ci := 10) (d2 := 2) (mc2 := 0) (ms2 := 0) (As := [_, _]) dX10_divide_68 kX10_comes lkX10_109 (by assumption) rfl rfl rfl (Nat.le_of_ble_eq_true rfl) ⟨by decide, by decide⟩ (by decide) ?_
        refine c_X10_comes W4 (by omega) (by omega) ?_
        first | rw [v8'] | rw [v10]
        show G _ _ _ _ _ _ _ _ _ _ _ _ _
        refine G_iret (pc := 71) dX10_divide_71 rfl (by decide) ?_
        first
          | exact h2 ht ha hb hbl _ R4 W4 _ (by rw [if_pos (by omega)]; exact eq)
          | exact h2 ht ha hb hbl _ R4 W4 _ (by rw [if_neg (by omega)]; exact er)
      · skip
        refine G_bipush (pc := 61) dX10_divide_61 rfl ?_
        refine G_goto (pc := 63) 68 dX10_divide_63 rfl ?_
        refine S_callV (pc := 68) (ci := 10) (d2 := 2) (mc2 := 0) (ms2 := 0) (As := [_, _]) dX10_divide_68 kX10_comes lkX10_109 (by assumption) rfl rfl rfl (Nat.le_of_ble_eq_true rfl) ⟨by decide, by decide⟩ (by decide) ?_
        refine c_X10_comes W4 (by omega) (by omega) ?_
        first | rw [v8'] | rw [v10]
        show G _ _ _ _ _ _ _ _ _ _ _ _ _
        refine G_iret (pc := 71) dX10_divide_71 rfl (by decide) ?_
        first
          | exact h2 ht ha hb hbl _ R4 W4 _ (by rw [if_pos (by omega)]; exact eq)
          | exact h2 ht ha hb hbl _ R4 W4 _ (by rw [if_neg (by omega)]; exact er)
    refine S_aload_n (pc := 30) dX10_divide_30 rfl ?_
    refine G_iload_n (pc := 31) dX10_divide_31 rfl ?_
    refine G_bipush (pc := 32) dX10_divide_32 rfl ?_
    refine S_callV (pc := 34) (ci := 10) (d2 := 1) (mc2 := 0) (ms2 := 0) (As := [_, _]) dX10_divide_34 kX10_copy lkX10_90 (by assumption) rfl rfl rfl (Nat.le_of_ble_eq_true rfl) ⟨by decide, by decide⟩ (by decide) ?_
    refine c_X10_copy hW (by omega) (by omega) ?_
    show G _ _ _ _ _ _ _ _ _ _ _ _ _
    refine S_aload_n (pc := 37) dX10_divide_37 rfl ?_
    refine G_iload_n (pc := 38) dX10_divide_38 rfl ?_
    refine G_bipush (pc := 39) dX10_divide_39 rfl ?_
    refine S_callV (pc := 41) (ci := 10) (d2 := 1) (mc2 := 0) (ms2 := 0) (As := [_, _]) dX10_divide_41 kX10_copy lkX10_90 (by assumption) rfl rfl rfl (Nat.le_of_ble_eq_true rfl) ⟨by decide, by decide⟩ (by decide) ?_
    refine c_X10_copy W1 (by omega) (by omega) ?_
    rw [mg_ne (r' := b) (by omega)]
    show G _ _ _ _ _ _ _ _ _ _ _ _ _
    refine S_aload_n (pc := 44) dX10_divide_44 rfl ?_
    refine G_bipush (pc := 45) dX10_divide_45 rfl ?_
    refine G_bipush (pc := 47) dX10_divide_47 rfl ?_
    refine G_bipush (pc := 49) dX10_divide_49 rfl ?_
    refine S_callV (pc := 51) (ci := 10) (d2 := 4) (mc2 := 0) (ms2 := 0) (As := [_, _, _]) dX10_divide_51 kX10_divideRows lkX10_269 (by assumption) rfl rfl rfl (Nat.le_of_ble_eq_true rfl) ⟨by decide, by decide⟩ (by decide) ?_
    refine c_X10_divideRows W2 (by omega) (by omega) (by omega) (by decide) (by decide) (by decide) (by rw [v9]; omega) (fun qq r hD => ?_)
    rw [v8, v9] at hD
    exact hfin qq r hD
  have hbB := plen_bd (mg S b) 80
  refine G_iload_n (pc := 0) dX10_divide_0 rfl ?_
  refine G_callS (pc := 1) (d2 := 2) (mc2 := 0) (ms2 := 0) (As := [_]) dX10_divide_1 kX10_isPoly lkX10_98 rfl rfl (Nat.le_of_ble_eq_true rfl) ⟨by decide, by decide⟩ (by decide) ?_
  refine c_X10_isPoly (by omega) (fun w1 => ?_) (fun w1 => ?_)
  · show G _ _ _ _ _ _ _ _ _ _ _ _ _
    refine G_if_eq_f (pc := 4) 16 dX10_divide_4 rfl (by decide) (by decide) ?_
    refine S_aload_n (pc := 7) dX10_divide_7 rfl ?_
    refine G_iload_n (pc := 8) dX10_divide_8 rfl ?_
    refine G_iload_n (pc := 9) dX10_divide_9 rfl ?_
    refine S_callV (pc := 10) (ci := 10) (d2 := 3) (mc2 := 0) (ms2 := 0) (As := [_, _]) dX10_divide_10 kX10_areBad lkX10_133 (by assumption) rfl rfl rfl (Nat.le_of_ble_eq_true rfl) ⟨by decide, by decide⟩ (by decide) ?_
    refine c_X10_areBad h96 (by omega) (fun w10 => ?_) (fun w10 => ?_)
    · show G _ _ _ _ _ _ _ _ _ _ _ _ _
      refine G_if_eq_f (pc := 13) 19 dX10_divide_13 rfl (by decide) (by decide) ?_
      refine G_bipush (pc := 16) dX10_divide_16 rfl ?_
      refine G_iret (pc := 18) dX10_divide_18 rfl (by decide) ?_
      exact h0 (by omega)
    · show G _ _ _ _ _ _ _ _ _ _ _ _ _
      refine G_if_eq_t (pc := 13) 19 dX10_divide_13 rfl (by decide) (by decide) ?_
      refine S_aload_n (pc := 19) dX10_divide_19 rfl ?_
      refine G_iload_n (pc := 20) dX10_divide_20 rfl ?_
      refine S_callV (pc := 21) (ci := 10) (d2 := 1) (mc2 := 0) (ms2 := 0) (As := [_]) dX10_divide_21 kX10_length lkX10_94 (by assumption) rfl rfl rfl (Nat.le_of_ble_eq_true rfl) ⟨by decide, by decide⟩ (by decide) ?_
      refine c_X10_length hW (by omega) ?_
      show G _ _ _ _ _ _ _ _ _ _ _ _ _
      refine G_if_ne (pc := 24) 30 dX10_divide_24 rfl (by omega) (fun c24 => ?_) (fun c24 => ?_)
      · skip
        exact hgo (by omega) (by omega) (by omega) (by omega)
      · skip
        refine G_bipush (pc := 27) dX10_divide_27 rfl ?_
        refine G_iret (pc := 29) dX10_divide_29 rfl (by decide) ?_
        exact h1 (by omega) (by omega) (by omega) (by omega)
  · show G _ _ _ _ _ _ _ _ _ _ _ _ _
    refine G_if_eq_t (pc := 4) 16 dX10_divide_4 rfl (by decide) (by decide) ?_
    refine G_bipush (pc := 16) dX10_divide_16 rfl ?_
    refine G_iret (pc := 18) dX10_divide_18 rfl (by decide) ?_
    exact h0 (by omega)
noncomputable def mst (p : Int) (x : QD) : QD := (x.2.1, (pdiv p x.1 x.2.1 (plen x.1 80) (plen x.2.1 80)).2, x.2.2.2, padd p x.2.2.1 (-1) (pmul p (pdiv p x.1 x.2.1 (plen x.1 80) (plen x.2.1 80)).1 x.2.2.2) 0)
/-- the Model's rows A, B, U, V behind t rounds -/
noncomputable def mu (p : Int) (a b : Int → Int) : Nat → QD
  | 0 => (a, b, one, pz)
  | t + 1 => mst p (mu p a b t)
def MuV (S : SS) (x : QD) : Prop := mg S 8 = x.1 ∧ mg S 9 = x.2.1 ∧ mg S 12 = x.2.2.1 ∧ mg S 13 = x.2.2.2
set_option maxRecDepth 100000 in
set_option maxHeartbeats 4000000 in
theorem l_X10_commonI {g : GC} {p b : Int} {sh : SH} {S : SS} {n : Nat} {U D : Int → Int} {Q : Option Value → GA → Nat → Prop} (hW : MdW p sh S) (hU : mg S 12 = U) (hD : mg S 11 = D)
    (K : G g mX10_common 5 0 0 113 [(0, gr g 96)] [] (hp g sh (mset S 12 (padd p U (-1) D 0))) n 0 0 Q) : ∀ (m : Nat) (i : Int), i + m = 80 → 0 ≤ i → G g mX10_common 5 0 0 66 [(3, .int (iI i)), (0, gr g 96)] [] (hp g sh (mset S 12 (mix (padd p U (-1) D 0) U i))) n 0 0 Q := by
  intro m
  have hW' := hW
  obtain ⟨hP, h96, hp1, p2, h97, hred⟩ := hW'
  have hpb := hP.bd
  have hUs : Sup U 80 := by rw [← hU]; exact mg_sup
  have hDs : Sup D 80 := by rw [← hD]; exact mg_sup
  have hUr : Red p U := by rw [← hU]; exact mg_red hW
  have hDr : Red p D := by rw [← hD]; exact mg_red hW
  have hps : Sup (padd p U (-1) D 0) 80 := padd_sup (la := 80) hUr hUs (Int.le_refl _) hDs (by omega)
  induction m with
  | zero =>
    intro i hi h0
    rw [show i = (80 : Nat) by omega, mix_N hUs, clip_id hps]
    refine G_iload_n (pc := 66) dX10_common_66 rfl ?_
    refine G_bipush (pc := 67) dX10_common_67 rfl ?_
    refine G_icmp_ge_t (pc := 69) 113 dX10_common_69 rfl (by omega) (by omega) ?_
    refine G_ls (ls' := [(0, _)]) (lsub_c rfl lsub_n) ?_
    exact K
  | succ m ih =>
    intro i hi h0
    have e1 : (mset S 12 (mix (padd p U (-1) D 0) U i)).2.1 97 (960 + i) = U i := by
      rw [mg_at (r := 12) (i := i) (by omega) (by omega), mg_set (mix_sup hUs (by omega))]
      unfold mix
      rw [if_neg (by omega)]
    have e2 : (mset S 12 (mix (padd p U (-1) D 0) U i)).2.1 97 (880 + i) = D i := by rw [mg_at (r := 11) (i := i) (by omega) (by omega), mg_ne (by decide), hD]
    have W2 : MdW p sh (mset S 12 (mix (padd p U (-1) D 0) U i)) := MdW_set hW (mix_red (padd_red (by omega)) hUr)
    have hx := hUr i
    have hy := hDr i
    have e3 : (U i - D i) % p = padd p U (-1) D 0 i := by
      unfold padd
      rw [Int.sub_zero, Int.neg_mul, Int.one_mul, Int.sub_eq_add_neg]
    refine G_iload_n (pc := 66) dX10_common_66 rfl ?_
    refine G_bipush (pc := 67) dX10_common_67 rfl ?_
    refine G_icmp_ge_f (pc := 69) 113 dX10_common_69 rfl (by omega) (by omega) ?_
    refine S_aload_n (pc := 72) dX10_common_72 rfl ?_
    refine S_getR (pc := 73) dX10_common_73 fX10_13 (by assumption) rfl (by assumption) ?_
    refine G_sipush (pc := 76) dX10_common_76 rfl ?_
    refine G_iload_n (pc := 79) dX10_common_79 rfl ?_
    refine G_iadd (pc := 80) dX10_common_80 ?_
    refine S_aload_n (pc := 81) dX10_common_81 rfl ?_
    refine S_aload_n (pc := 82) dX10_common_82 rfl ?_
    refine S_getR (pc := 83) dX10_common_83 fX10_13 (by assumption) rfl (by assumption) ?_
    refine G_sipush (pc := 86) dX10_common_86 rfl ?_
    refine G_iload_n (pc := 89) dX10_common_89 rfl ?_
    refine G_iadd (pc := 90) dX10_common_90 ?_
    refine S_iald (pc := 91) dX10_common_91 (by assumption) (by omega) ?_
    rw [e1]
    refine S_aload_n (pc := 92) dX10_common_92 rfl ?_
    refine S_getR (pc := 93) dX10_common_93 fX10_13 (by assumption) rfl (by assumption) ?_
    refine G_sipush (pc := 96) dX10_common_96 rfl ?_
    refine G_iload_n (pc := 99) dX10_common_99 rfl ?_
    refine G_iadd (pc := 100) dX10_common_100 ?_
    refine S_iald (pc := 101) dX10_common_101 (by assumption) (by omega) ?_
    rw [e2]
    refine G_isub (pc := 102) dX10_common_102 ?_
    refine S_callV (pc := 103) (ci := 10) (d2 := 1) (mc2 := 0) (ms2 := 0) (As := [_]) dX10_common_103 kX10_rest lkX10_102 (by assumption) rfl rfl rfl (Nat.le_of_ble_eq_true rfl) ⟨by decide, by decide⟩ (by decide) ?_
    refine c_X10_rest W2 (by omega) ?_
    show G _ _ _ _ _ _ _ _ _ _ _ _ _
    refine S_iast (pc := 106) dX10_common_106 (by assumption) (by omega) ?_
    refine G_iinc (pc := 107) (ls' := [(3, _), (0, _)]) dX10_common_107 rfl (by decide) rfl ?_
    refine G_goto (pc := 110) 66 dX10_common_110 rfl ?_
    rw [show (960 : Int) + i = 80 * 12 + i by omega, mset_setA (by omega), e3, show iup (mix (padd p U (-1) D 0) U i) i (padd p U (-1) D 0 i) = mix (padd p U (-1) D 0) U (i + 1) from mix_S h0]
    exact ih (i + 1) (by omega) (by omega)
set_option maxRecDepth 100000 in
set_option maxHeartbeats 4000000 in
theorem l_X10_common {g : GC} {p : Int} {sh : SH} {S0 : SS} {n : Nat} {A B : Int → Int} {Q : Option Value → GA → Nat → Prop} (hP : IsP p)
    (hroom : ∀ t : Nat, (∀ s : Nat, s ≤ t → 0 < plen (mu p A B s).2.1 80) → plen (pdiv p (mu p A B t).1 (mu p A B t).2.1 (plen (mu p A B t).1 80) (plen (mu p A B t).2.1 80)).1 80 + plen (mu p A B t).2.2.2 80 ≤ 81)
    (hend : ∀ (t : Nat) (S : SS), MRel S0 S → MdW p sh S → MuV S (mu p A B t) → (∀ s : Nat, s < t → 0 < plen (mu p A B s).2.1 80) → plen (mu p A B t).2.1 80 = 0 → G g mX10_common 5 0 0 164 [(0, gr g 96)] [] (hp g sh S) n 0 0 Q) :
    ∀ (k t : Nat) (S : SS), plen (mu p A B t).2.1 80 ≤ k → MRel S0 S → MdW p sh S → MuV S (mu p A B t) → (∀ s : Nat, s < t → 0 < plen (mu p A B s).2.1 80) → G g mX10_common 5 0 0 35 [(0, gr g 96)] [] (hp g sh S) n 0 0 Q := by
  have hpb := hP.bd
  intro k
  induction k with
  | zero =>
    intro t S hk hR hW hV hs
    have h96 := hW.2.1
    have hbl := plen_bd (mu p A B t).2.1 80
    refine S_aload_n (pc := 35) dX10_common_35 rfl ?_
    refine G_bipush (pc := 36) dX10_common_36 rfl ?_
    refine S_callV (pc := 38) (ci := 10) (d2 := 1) (mc2 := 0) (ms2 := 0) (As := [_]) dX10_common_38 kX10_length lkX10_94 (by assumption) rfl rfl rfl (Nat.le_of_ble_eq_true rfl) ⟨by decide, by decide⟩ (by decide) ?_
    refine c_X10_length hW (by omega) ?_
    rw [hV.2.1]
    show G _ _ _ _ _ _ _ _ _ _ _ _ _
    refine G_if_le_t (pc := 41) 164 dX10_common_41 rfl (by omega) (by omega) ?_
    exact hend t S hR hW hV hs (by omega)
  | succ k ih =>
    intro t S hk hR hW hV hs
    have h96 := hW.2.1
    have hbl := plen_bd (mu p A B t).2.1 80
    have hV' := hV
    obtain ⟨v8, v9, v12, v13⟩ := hV'
    by_cases hc : plen (mu p A B t).2.1 80 = 0
    · skip
      refine S_aload_n (pc := 35) dX10_common_35 rfl ?_
      refine G_bipush (pc := 36) dX10_common_36 rfl ?_
      refine S_callV (pc := 38) (ci := 10) (d2 := 1) (mc2 := 0) (ms2 := 0) (As := [_]) dX10_common_38 kX10_length lkX10_94 (by assumption) rfl rfl rfl (Nat.le_of_ble_eq_true rfl) ⟨by decide, by decide⟩ (by decide) ?_
      refine c_X10_length hW (by omega) ?_
      rw [v9]
      show G _ _ _ _ _ _ _ _ _ _ _ _ _
      refine G_if_le_t (pc := 41) 164 dX10_common_41 rfl (by omega) (by omega) ?_
      exact hend t S hR hW hV hs hc
    · have hrm := hroom t (fun s hs' => by
        by_cases hst : s = t
        · rw [hst]; omega
        · exact hs s (by omega))
      have r8 : Red p (mu p A B t).1 := by rw [← v8]; exact mg_red hW
      have s8 : Sup (mu p A B t).1 80 := by rw [← v8]; exact mg_sup
      have r9 : Red p (mu p A B t).2.1 := by rw [← v9]; exact mg_red hW
      have s9 : Sup (mu p A B t).2.1 80 := by rw [← v9]; exact mg_sup
      have r12 : Red p (mu p A B t).2.2.1 := by rw [← v12]; exact mg_red hW
      have s12 : Sup (mu p A B t).2.2.1 80 := by rw [← v12]; exact mg_sup
      have r13 : Red p (mu p A B t).2.2.2 := by rw [← v13]; exact mg_red hW
      have s13 : Sup (mu p A B t).2.2.2 80 := by rw [← v13]; exact mg_sup
      obtain ⟨hD0, hun⟩ := pdiv_80 hP r8 s8 r9 s9 (by omega)
      have hba := plen_bd (mu p A B t).1 80
      have hgo : ∀ qq r : Int → Int, DivS p (mu p A B t).1 (mu p A B t).2.1 qq r (plen (mu p A B t).1 80) (plen (mu p A B t).2.1 80) → G g mX10_common 5 0 0 54 [(0, gr g 96)] [] (hp g sh (mset (mset S 10 qq) 8 r)) n 0 0 Q := by
        intro qq r hD
        obtain ⟨eq, er⟩ := hun qq r hD
        have hqs : Sup qq 80 := fun j hj => hD.2.2.2.2 j (by omega)
        have hrs : Sup r 80 := fun j hj => hD.2.2.2.1 j (by omega)
        have W1 : MdW p sh (mset (mset S 10 qq) 8 r) := MdW_set (MdW_set hW hD.1) hD.2.1
        have w10 : mg (mset (mset S 10 qq) 8 r) 10 = qq := by rw [mg_ne (by decide), mg_set hqs]
        have w13 : mg (mset (mset S 10 qq) 8 r) 13 = (mu p A B t).2.2.2 := by rw [mg_ne (by decide), mg_ne (by decide), v13]
        have hps : Sup (pmul p qq (mu p A B t).2.2.2) 80 := pmul_sup (la := plen qq 80) (lb := plen (mu p A B t).2.2.2 80) (fun j hj => Sup_len hqs hj) (fun j hj => Sup_len s13 hj) (by rw [eq]; omega)
        have W2 : MdW p sh (mset (mset (mset S 10 qq) 8 r) 11 (pmul p qq (mu p A B t).2.2.2)) := MdW_set W1 (pmul_red (by omega))
        have x12 : mg (mset (mset (mset S 10 qq) 8 r) 11 (pmul p qq (mu p A B t).2.2.2)) 12 = (mu p A B t).2.2.1 := by rw [mg_ne (by decide), mg_ne (by decide), mg_ne (by decide), v12]
        have x11 : mg (mset (mset (mset S 10 qq) 8 r) 11 (pmul p qq (mu p A B t).2.2.2)) 11 = pmul p qq (mu p A B t).2.2.2 := mg_set hps
        have hus : Sup (padd p (mu p A B t).2.2.1 (-1) (pmul p qq (mu p A B t).2.2.2) 0) 80 := padd_sup (la := 80) r12 s12 (Int.le_refl _) hps (by omega)
        have W3 : MdW p sh (mset (mset (mset (mset S 10 qq) 8 r) 11 (pmul p qq (mu p A B t).2.2.2)) 12 (padd p (mu p A B t).2.2.1 (-1) (pmul p qq (mu p A B t).2.2.2) 0)) := MdW_set W2 (padd_red (by omega))
        have R3 : MRel S0 (mset (mset (mset (mset S 10 qq) 8 r) 11 (pmul p qq (mu p A B t).2.2.2)) 12 (padd p (mu p A B t).2.2.1 (-1) (pmul p qq (mu p A B t).2.2.2) 0)) := MRel_set (MRel_set (MRel_set (MRel_set hR (by decide)) (by decide)) (by decide)) (by decide)
        have K : ∀ S3 : SS, MdW p sh S3 → MRel S0 S3 → mg S3 8 = r → mg S3 9 = (mu p A B t).2.1 → mg S3 12 = padd p (mu p A B t).2.2.1 (-1) (pmul p qq (mu p A B t).2.2.2) 0 → mg S3 13 = (mu p A B t).2.2.2 → G g mX10_common 5 0 0 113 [(0, gr g 96)] [] (hp g sh S3) n 0 0 Q := by
          intro S3 W3 R3 y8 y9 y12 y13
          have Z1 : MdW p sh (mset S3 14 r) := MdW_set W3 hD.2.1
          have Z2 : MdW p sh (mset (mset S3 14 r) 8 (mu p A B t).2.1) := MdW_set Z1 r9
          have Z3 : MdW p sh (mset (mset (mset S3 14 r) 8 (mu p A B t).2.1) 9 r) := MdW_set Z2 hD.2.1
          have Z4 : MdW p sh (mset (mset (mset (mset S3 14 r) 8 (mu p A B t).2.1) 9 r) 14 (padd p (mu p A B t).2.2.1 (-1) (pmul p qq (mu p A B t).2.2.2) 0)) := MdW_set Z3 (padd_red (by omega))
          have Z5 : MdW p sh (mset (mset (mset (mset (mset S3 14 r) 8 (mu p A B t).2.1) 9 r) 14 (padd p (mu p A B t).2.2.1 (-1) (pmul p qq (mu p A B t).2.2.2) 0)) 12 (mu p A B t).2.2.2) := MdW_set Z4 r13
          refine S_aload_n (pc := 113) dX10_common_113 rfl ?_
          refine G_bipush (pc := 114) dX10_common_114 rfl ?_
          refine G_bipush (pc := 116) dX10_common_116 rfl ?_
          refine S_callV (pc := 118) (ci := 10) (d2 := 1) (mc2 := 0) (ms2 := 0) (As := [_, _]) dX10_common_118 kX10_copy lkX10_90 (by assumption) rfl rfl rfl (Nat.le_of_ble_eq_true rfl) ⟨by decide, by decide⟩ (by decide) ?_
          refine c_X10_copy W3 (by omega) (by omega) ?_
          rw [y8]
          show G _ _ _ _ _ _ _ _ _ _ _ _ _
          refine S_aload_n (pc := 121) dX10_common_121 rfl ?_
          refine G_bipush (pc := 122) dX10_common_122 rfl ?_
          refine G_bipush (pc := 124) dX10_common_124 rfl ?_
          refine S_callV (pc := 126) (ci := 10) (d2 := 1) (mc2 := 0) (ms2 := 0) (As := [_, _]) dX10_common_126 kX10_copy lkX10_90 (by assumption) rfl rfl rfl (Nat.le_of_ble_eq_true rfl) ⟨by decide, by decide⟩ (by decide) ?_
          refine c_X10_copy Z1 (by omega) (by omega) ?_
          rw [mg_ne (r' := 9) (by decide), y9]
          show G _ _ _ _ _ _ _ _ _ _ _ _ _
          refine S_aload_n (pc := 129) dX10_common_129 rfl ?_
          refine G_bipush (pc := 130) dX10_common_130 rfl ?_
          refine G_bipush (pc := 132) dX10_common_132 rfl ?_
          refine S_callV (pc := 134) (ci := 10) (d2 := 1) (mc2 := 0) (ms2 := 0) (As := [_, _]) dX10_common_134 kX10_copy lkX10_90 (by assumption) rfl rfl rfl (Nat.le_of_ble_eq_true rfl) ⟨by decide, by decide⟩ (by decide) ?_
          refine c_X10_copy Z2 (by omega) (by omega) ?_
          rw [mg_ne (r' := 14) (by decide), mg_set hrs]
          show G _ _ _ _ _ _ _ _ _ _ _ _ _
          refine S_aload_n (pc := 137) dX10_common_137 rfl ?_
          refine G_bipush (pc := 138) dX10_common_138 rfl ?_
          refine G_bipush (pc := 140) dX10_common_140 rfl ?_
          refine S_callV (pc := 142) (ci := 10) (d2 := 1) (mc2 := 0) (ms2 := 0) (As := [_, _]) dX10_common_142 kX10_copy lkX10_90 (by assumption) rfl rfl rfl (Nat.le_of_ble_eq_true rfl) ⟨by decide, by decide⟩ (by decide) ?_
          refine c_X10_copy Z3 (by omega) (by omega) ?_
          rw [mg_ne (r' := 12) (by decide), mg_ne (r' := 12) (by decide), mg_ne (r' := 12) (by decide), y12]
          show G _ _ _ _ _ _ _ _ _ _ _ _ _
          refine S_aload_n (pc := 145) dX10_common_145 rfl ?_
          refine G_bipush (pc := 146) dX10_common_146 rfl ?_
          refine G_bipush (pc := 148) dX10_common_148 rfl ?_
          refine S_callV (pc := 150) (ci := 10) (d2 := 1) (mc2 := 0) (ms2 := 0) (As := [_, _]) dX10_common_150 kX10_copy lkX10_90 (by assumption) rfl rfl rfl (Nat.le_of_ble_eq_true rfl) ⟨by decide, by decide⟩ (by decide) ?_
          refine c_X10_copy Z4 (by omega) (by omega) ?_
          rw [mg_ne (r' := 13) (by decide), mg_ne (r' := 13) (by decide), mg_ne (r' := 13) (by decide), mg_ne (r' := 13) (by decide), y13]
          show G _ _ _ _ _ _ _ _ _ _ _ _ _
          refine S_aload_n (pc := 153) dX10_common_153 rfl ?_
          refine G_bipush (pc := 154) dX10_common_154 rfl ?_
          refine G_bipush (pc := 156) dX10_common_156 rfl ?_
          refine S_callV (pc := 158) (ci := 10) (d2 := 1) (mc2 := 0) (ms2 := 0) (As := [_, _]) dX10_common_158 kX10_copy lkX10_90 (by assumption) rfl rfl rfl (Nat.le_of_ble_eq_true rfl) ⟨by decide, by decide⟩ (by decide) ?_
          refine c_X10_copy Z5 (by omega) (by omega) ?_
          rw [mg_ne (r' := 14) (by decide), mg_set hus]
          show G _ _ _ _ _ _ _ _ _ _ _ _ _
          refine G_goto (pc := 161) 35 dX10_common_161 rfl ?_
          refine ih (t + 1) _ ?_ (MRel_set (MRel_set (MRel_set (MRel_set (MRel_set (MRel_set R3 (by decide)) (by decide)) (by decide)) (by decide)) (by decide)) (by decide)) (MdW_set Z5 (padd_red (by omega))) ⟨?_, ?_, ?_, ?_⟩ (fun s hs' => ?_)
          · show plen (pdiv p (mu p A B t).1 (mu p A B t).2.1 (plen (mu p A B t).1 80) (plen (mu p A B t).2.1 80)).2 80 ≤ k
            rw [← er]
            have : plen r 80 ≤ plen (mu p A B t).2.1 80 - 1 := plen_le (by omega) (fun j h1 _ => hD.2.2.2.1 j (Or.inr h1))
            omega
          · rw [mg_ne (by decide), mg_ne (by decide), mg_ne (by decide), mg_ne (by decide), mg_set s9]; rfl
          · rw [mg_ne (by decide), mg_ne (by decide), mg_ne (by decide), mg_set hrs, er]; rfl
          · rw [mg_ne (by decide), mg_set s13]; rfl
          · rw [mg_set hus, eq]; rfl
          · by_cases hst : s = t
            · rw [hst]; omega
            · exact hs s (by omega)
        have hK := K _ W3 R3 (by rw [mg_ne (by decide), mg_ne (by decide), mg_set hrs]) (by rw [mg_ne (by decide), mg_ne (by decide), mg_ne (by decide), mg_ne (by decide), v9]) (mg_set hus) (by rw [mg_ne (by decide), mg_ne (by decide), mg_ne (by decide), mg_ne (by decide), v13])
        have hin := l_X10_commonI (b := 0) W2 x12 x11 hK 80 0 (by omega) (by omega)
        rw [mix_0, show mset (mset (mset (mset S 10 qq) 8 r) 11 (pmul p qq (mu p A B t).2.2.2)) 12 (mu p A B t).2.2.1 = mset (mset (mset S 10 qq) 8 r) 11 (pmul p qq (mu p A B t).2.2.2) by rw [← x12, mset_self]] at hin
        refine S_aload_n (pc := 54) dX10_common_54 rfl ?_
        refine G_bipush (pc := 55) dX10_common_55 rfl ?_
        refine G_bipush (pc := 57) dX10_common_57 rfl ?_
        refine G_bipush (pc := 59) dX10_common_59 rfl ?_
        refine S_callV (pc := 61) (ci := 10) (d2 := 2) (mc2 := 0) (ms2 := 0) (As := [_, _, _]) dX10_common_61 kX10_multiply lkX10_146 (by assumption) rfl rfl rfl (Nat.le_of_ble_eq_true rfl) ⟨by decide, by decide⟩ (by decide) ?_
        refine c_X10_multiply W1 (by omega) (by omega) (by omega) (by decide) (by decide) (by rw [w10, w13, eq]; omega) ?_
        rw [w10, w13]
        show G _ _ _ _ _ _ _ _ _ _ _ _ _
        refine G_iconst (pc := 64) dX10_common_64 ?_
        refine G_istore_n (pc := 65) (ls' := [(3, _), (0, _)]) dX10_common_65 (by decide) rfl ?_
        exact hin
      refine S_aload_n (pc := 35) dX10_common_35 rfl ?_
      refine G_bipush (pc := 36) dX10_common_36 rfl ?_
      refine S_callV (pc := 38) (ci := 10) (d2 := 1) (mc2 := 0) (ms2 := 0) (As := [_]) dX10_common_38 kX10_length lkX10_94 (by assumption) rfl rfl rfl (Nat.le_of_ble_eq_true rfl) ⟨by decide, by decide⟩ (by decide) ?_
      refine c_X10_length hW (by omega) ?_
      rw [v9]
      show G _ _ _ _ _ _ _ _ _ _ _ _ _
      refine G_if_le_f (pc := 41) 164 dX10_common_41 rfl (by omega) (by omega) ?_
      refine S_aload_n (pc := 44) dX10_common_44 rfl ?_
      refine G_bipush (pc := 45) dX10_common_45 rfl ?_
      refine G_bipush (pc := 47) dX10_common_47 rfl ?_
      refine G_bipush (pc := 49) dX10_common_49 rfl ?_
      refine S_callV (pc := 51) (ci := 10) (d2 := 4) (mc2 := 0) (ms2 := 0) (As := [_, _, _]) dX10_common_51 kX10_divideRows lkX10_269 (by assumption) rfl rfl rfl (Nat.le_of_ble_eq_true rfl) ⟨by decide, by decide⟩ (by decide) ?_
      refine c_X10_divideRows hW (by omega) (by omega) (by omega) (by decide) (by decide) (by decide) (by rw [v9]; omega) (fun qq r hD => ?_)
      rw [v8, v9] at hD
      exact hgo qq r hD
