/-! the Model: sum, order, common, gcd, cofactor, divide -/
/-- the same but for the Model's rows from 8 on -/
def MRel (S S' : SS) : Prop := S'.1 = S.1 ∧ S'.2.2 = S.2.2 ∧ (∀ b : Nat, b ≠ 97 → S'.2.1 b = S.2.1 b) ∧ ∀ r : Int, 0 ≤ r → r < 8 → mg S' r = mg S r
theorem MRel_rf {S : SS} : MRel S S := ⟨rfl, rfl, fun _ _ => rfl, fun _ _ _ => rfl⟩
theorem MRel_set {S S' : SS} {r : Int} {ys : Int → Int} (h : MRel S S') (hr : 8 ≤ r) : MRel S (mset S' r ys) :=
  ⟨h.1, h.2.1, fun b hb => (putA_ne hb).trans (h.2.2.1 b hb), fun q h0 h8 => (mg_ne (by omega)).trans (h.2.2.2 q h0 h8)⟩
set_option maxRecDepth 100000 in
set_option maxHeartbeats 4000000 in
theorem c_X10_areBad {g : GC} {sh : SH} {S : SS} {n : Nat} {a b : Int} {Q : Option Value → GA → Nat → Prop} (h96 : sh 96 = some (.inl 10)) (hr : (-2147483648 ≤ a ∧ a ≤ 2147483647) ∧ (-2147483648 ≤ b ∧ b ≤ 2147483647)) (h1 : ¬ ((0 ≤ a ∧ a < 8) ∧ (0 ≤ b ∧ b < 8)) → Q (some (.int (iI 1))) (hp g sh S) n) (h0 : (0 ≤ a ∧ a < 8) ∧ (0 ≤ b ∧ b < 8) → Q (some (.int (iI 0))) (hp g sh S) n) : GCall g mX10_areBad 3 0 0 [gr g 96, .int (iI a), .int (iI b)] (hp g sh S) n Q := by
  obtain ⟨hr1, hr2⟩ := hr
  refine GCall.of (by decide) (Nat.le_of_ble_eq_true rfl) (ls := [(0, _), (1, _), (2, _)]) rfl ?_
  refine G_iload_n (pc := 0) dX10_areBad_0 rfl ?_
  refine G_callS (pc := 1) (d2 := 2) (mc2 := 0) (ms2 := 0) (As := [_]) dX10_areBad_1 kX10_isPoly lkX10_98 rfl rfl (Nat.le_of_ble_eq_true rfl) ⟨by decide, by decide⟩ (by decide) ?_
  refine c_X10_isPoly (by omega) (fun w1 => ?_) (fun w1 => ?_)
  · show G _ _ _ _ _ _ _ _ _ _ _ _ _
    refine G_if_eq_f (pc := 4) 14 dX10_areBad_4 rfl (by decide) (by decide) ?_
    refine G_iload_n (pc := 7) dX10_areBad_7 rfl ?_
    refine G_callS (pc := 8) (d2 := 2) (mc2 := 0) (ms2 := 0) (As := [_]) dX10_areBad_8 kX10_isPoly lkX10_98 rfl rfl (Nat.le_of_ble_eq_true rfl) ⟨by decide, by decide⟩ (by decide) ?_
    refine c_X10_isPoly (by omega) (fun w8 => ?_) (fun w8 => ?_)
    · show G _ _ _ _ _ _ _ _ _ _ _ _ _
      refine G_if_ne_t (pc := 11) 18 dX10_areBad_11 rfl (by decide) (by decide) ?_
      refine G_iconst (pc := 18) dX10_areBad_18 ?_
      refine G_zret (pc := 19) dX10_areBad_19 rfl nar_z0 (by decide) ?_
      first | exact h1 (by omega) | exact h0 (by omega)
    · show G _ _ _ _ _ _ _ _ _ _ _ _ _
      refine G_if_ne_f (pc := 11) 18 dX10_areBad_11 rfl (by decide) (by decide) ?_
      refine G_iconst (pc := 14) dX10_areBad_14 ?_
      refine G_goto (pc := 15) 19 dX10_areBad_15 rfl ?_
      refine G_zret (pc := 19) dX10_areBad_19 rfl nar_z1 (by decide) ?_
      first | exact h1 (by omega) | exact h0 (by omega)
  · show G _ _ _ _ _ _ _ _ _ _ _ _ _
    refine G_if_eq_t (pc := 4) 14 dX10_areBad_4 rfl (by decide) (by decide) ?_
    refine G_iconst (pc := 14) dX10_areBad_14 ?_
    refine G_goto (pc := 15) 19 dX10_areBad_15 rfl ?_
    refine G_zret (pc := 19) dX10_areBad_19 rfl nar_z1 (by decide) ?_
    first | exact h1 (by omega) | exact h0 (by omega)
set_option maxRecDepth 100000 in
set_option maxHeartbeats 4000000 in
theorem l_X10_sum {g : GC} {p t a b k : Int} {sh : SH} {S : SS} {n : Nat} {Q : Option Value → GA → Nat → Prop} (hW : MdW p sh S) (ht : 0 ≤ t ∧ t < 8) (ha : 0 ≤ a ∧ a < 8) (hb : 0 ≤ b ∧ b < 8) (hk : 0 ≤ k ∧ k < p) (hq : Q (some (.int (iI (plen (padd p (mg S b) k (mg S a) 0) 80)))) (hp g sh (mset (mset S 15 (padd p (mg S b) k (mg S a) 0)) t (padd p (mg S b) k (mg S a) 0))) n) : ∀ (m : Nat) (i : Int), i + m = 80 → 0 ≤ i → G g mX10_sum 3 0 0 35 [(6, .int (iI i)), (5, .int (iI k)), (0, gr g 96), (1, .int (iI t)), (2, .int (iI a)), (4, .int (iI b))] [] (hp g sh (mset S 15 (mix (padd p (mg S b) k (mg S a) 0) (mg S 15) i))) n 0 0 Q := by
  intro m
  have hW' := hW
  obtain ⟨hP, h96, hp1, p2, h97, hred⟩ := hW'
  have hpb := hP.bd
  have hps : Sup (padd p (mg S b) k (mg S a) 0) 80 := padd_sup (la := 80) (mg_red hW) mg_sup (Int.le_refl _) mg_sup (by omega)
  induction m with
  | zero =>
    intro i hi h0
    have hW2 : MdW p sh (mset S 15 (padd p (mg S b) k (mg S a) 0)) := MdW_set hW (padd_red (by omega))
    rw [show i = (80 : Nat) by omega, mix_N mg_sup, clip_id hps]
    refine G_iload (pc := 35) dX10_sum_35 rfl ?_
    refine G_bipush (pc := 37) dX10_sum_37 rfl ?_
    refine G_icmp_ge_t (pc := 39) 93 dX10_sum_39 rfl (by omega) (by omega) ?_
    refine S_aload_n (pc := 93) dX10_sum_93 rfl ?_
    refine G_iload_n (pc := 94) dX10_sum_94 rfl ?_
    refine G_bipush (pc := 95) dX10_sum_95 rfl ?_
    refine S_callV (pc := 97) (ci := 10) (d2 := 2) (mc2 := 0) (ms2 := 0) (As := [_, _]) dX10_sum_97 kX10_comes lkX10_109 (by assumption) rfl rfl rfl (Nat.le_of_ble_eq_true rfl) ⟨by decide, by decide⟩ (by decide) ?_
    refine c_X10_comes hW2 (by omega) (by omega) ?_
    rw [mg_set hps]
    show G _ _ _ _ _ _ _ _ _ _ _ _ _
    refine G_iret (pc := 100) dX10_sum_100 rfl (by decide) ?_
    exact hq
  | succ m ih =>
    intro i hi h0
    have e1 : (mset S 15 (mix (padd p (mg S b) k (mg S a) 0) (mg S 15) i)).2.1 97 (80 * a + i) = mg S a i := by rw [mg_at (r := a) (i := i) (by omega) rfl, mg_ne (by omega)]
    have e2 : (mset S 15 (mix (padd p (mg S b) k (mg S a) 0) (mg S 15) i)).2.1 97 (80 * b + i) = mg S b i := by rw [mg_at (r := b) (i := i) (by omega) rfl, mg_ne (by omega)]
    have e3 : (mset S 15 (mix (padd p (mg S b) k (mg S a) 0) (mg S 15) i)).1 96 1 = p := hp1
    have hm := mul_bd (mg_red (r := a) hW i) hk hpb.2
    have hx := mg_red (r := b) hW i
    have e4 : (mg S a i * k + mg S b i) % p = padd p (mg S b) k (mg S a) 0 i := by
      unfold padd
      rw [Int.sub_zero, Int.add_comm, Int.mul_comm]
    refine G_iload (pc := 35) dX10_sum_35 rfl ?_
    refine G_bipush (pc := 37) dX10_sum_37 rfl ?_
    refine G_icmp_ge_f (pc := 39) 93 dX10_sum_39 rfl (by omega) (by omega) ?_
    refine S_aload_n (pc := 42) dX10_sum_42 rfl ?_
    refine S_getR (pc := 43) dX10_sum_43 fX10_13 (by assumption) rfl (by assumption) ?_
    refine G_sipush (pc := 46) dX10_sum_46 rfl ?_
    refine G_iload (pc := 49) dX10_sum_49 rfl ?_
    refine G_iadd (pc := 51) dX10_sum_51 ?_
    refine S_aload_n (pc := 52) dX10_sum_52 rfl ?_
    refine S_getR (pc := 53) dX10_sum_53 fX10_13 (by assumption) rfl (by assumption) ?_
    refine G_bipush (pc := 56) dX10_sum_56 rfl ?_
    refine G_iload_n (pc := 58) dX10_sum_58 rfl ?_
    refine G_imul (pc := 59) dX10_sum_59 ?_
    refine G_iload (pc := 60) dX10_sum_60 rfl ?_
    refine G_iadd (pc := 62) dX10_sum_62 ?_
    refine S_iald (pc := 63) dX10_sum_63 (by assumption) (by omega) ?_
    rw [e1]
    refine G_iload (pc := 64) dX10_sum_64 rfl ?_
    refine G_imul (pc := 66) dX10_sum_66 ?_
    refine S_aload_n (pc := 67) dX10_sum_67 rfl ?_
    refine S_getR (pc := 68) dX10_sum_68 fX10_13 (by assumption) rfl (by assumption) ?_
    refine G_bipush (pc := 71) dX10_sum_71 rfl ?_
    refine G_iload (pc := 73) dX10_sum_73 rfl ?_
    refine G_imul (pc := 75) dX10_sum_75 ?_
    refine G_iload (pc := 76) dX10_sum_76 rfl ?_
    refine G_iadd (pc := 78) dX10_sum_78 ?_
    refine S_iald (pc := 79) dX10_sum_79 (by assumption) (by omega) ?_
    rw [e2]
    refine G_iadd (pc := 80) dX10_sum_80 ?_
    refine S_aload_n (pc := 81) dX10_sum_81 rfl ?_
    refine S_getI (pc := 82) dX10_sum_82 fX10_64 (by assumption) rfl ?_
    rw [e3]
    refine G_iremP (pc := 85) dX10_sum_85 (by omega) ?_
    refine S_iast (pc := 86) dX10_sum_86 (by assumption) (by omega) ?_
    refine G_iinc (pc := 87) (ls' := [(6, _), (5, _), (0, _), (1, _), (2, _), (4, _)]) dX10_sum_87 rfl (by decide) rfl ?_
    refine G_goto (pc := 90) 35 dX10_sum_90 rfl ?_
    rw [show (1200 : Int) + i = 80 * 15 + i by omega, mset_setA (by omega), e4, show iup (mix (padd p (mg S b) k (mg S a) 0) (mg S 15) i) i (padd p (mg S b) k (mg S a) 0 i) = mix (padd p (mg S b) k (mg S a) 0) (mg S 15) (i + 1) from mix_S h0]
    exact ih (i + 1) (by omega) (by omega)
set_option maxRecDepth 100000 in
set_option maxHeartbeats 4000000 in
theorem c_X10_sum {g : GC} {p t a v b : Int} {sh : SH} {S : SS} {n : Nat} {Q : Option Value → GA → Nat → Prop} (hW : MdW p sh S) (hr : (-2147483648 ≤ t ∧ t ≤ 2147483647) ∧ (-2147483648 ≤ a ∧ a ≤ 2147483647) ∧ (-2147483648 ≤ v ∧ v ≤ 2147483647) ∧ (-2147483648 ≤ b ∧ b ≤ 2147483647)) (h0 : ¬ ((0 ≤ t ∧ t < 8) ∧ (0 ≤ a ∧ a < 8) ∧ (0 ≤ b ∧ b < 8)) → Q (some (.int (iI (-2)))) (hp g sh S) n) (h1 : (0 ≤ t ∧ t < 8) → (0 ≤ a ∧ a < 8) → (0 ≤ b ∧ b < 8) → Q (some (.int (iI (plen (padd p (mg S b) (v % p) (mg S a) 0) 80)))) (hp g sh (mset (mset S 15 (padd p (mg S b) (v % p) (mg S a) 0)) t (padd p (mg S b) (v % p) (mg S a) 0))) n) : GCall g mX10_sum 3 0 0 [gr g 96, .int (iI t), .int (iI a), .int (iI v), .int (iI b)] (hp g sh S) n Q := by
  have hW' := hW
  obtain ⟨hP, h96, hp1, p2, h97, hred⟩ := hW'
  have hpb := hP.bd
  obtain ⟨hr1, hr2, hr3, hr4⟩ := hr
  refine GCall.of (by decide) (Nat.le_of_ble_eq_true rfl) (ls := [(0, _), (1, _), (2, _), (3, _), (4, _)]) rfl ?_
  refine G_iload_n (pc := 0) dX10_sum_0 rfl ?_
  refine G_callS (pc := 1) (d2 := 2) (mc2 := 0) (ms2 := 0) (As := [_]) dX10_sum_1 kX10_isPoly lkX10_98 rfl rfl (Nat.le_of_ble_eq_true rfl) ⟨by decide, by decide⟩ (by decide) ?_
  refine c_X10_isPoly (by omega) (fun w1 => ?_) (fun w1 => ?_)
  · show G _ _ _ _ _ _ _ _ _ _ _ _ _
    refine G_if_eq_f (pc := 4) 22 dX10_sum_4 rfl (by decide) (by decide) ?_
    refine G_iload_n (pc := 7) dX10_sum_7 rfl ?_
    refine G_callS (pc := 8) (d2 := 2) (mc2 := 0) (ms2 := 0) (As := [_]) dX10_sum_8 kX10_isPoly lkX10_98 rfl rfl (Nat.le_of_ble_eq_true rfl) ⟨by decide, by decide⟩ (by decide) ?_
    refine c_X10_isPoly (by omega) (fun w8 => ?_) (fun w8 => ?_)
    · show G _ _ _ _ _ _ _ _ _ _ _ _ _
      refine G_if_eq_f (pc := 11) 22 dX10_sum_11 rfl (by decide) (by decide) ?_
      refine G_iload (pc := 14) dX10_sum_14 rfl ?_
      refine G_callS (pc := 16) (d2 := 2) (mc2 := 0) (ms2 := 0) (As := [_]) dX10_sum_16 kX10_isPoly lkX10_98 rfl rfl (Nat.le_of_ble_eq_true rfl) ⟨by decide, by decide⟩ (by decide) ?_
      refine c_X10_isPoly (by omega) (fun w16 => ?_) (fun w16 => ?_)
      · show G _ _ _ _ _ _ _ _ _ _ _ _ _
        refine G_if_ne_t (pc := 19) 25 dX10_sum_19 rfl (by decide) (by decide) ?_
        refine S_aload_n (pc := 25) dX10_sum_25 rfl ?_
        refine G_iload_n (pc := 26) dX10_sum_26 rfl ?_
        refine S_callV (pc := 27) (ci := 10) (d2 := 1) (mc2 := 0) (ms2 := 0) (As := [_]) dX10_sum_27 kX10_rest lkX10_102 (by assumption) rfl rfl rfl (Nat.le_of_ble_eq_true rfl) ⟨by decide, by decide⟩ (by decide) ?_
        refine c_X10_rest hW hr3 ?_
        show G _ _ _ _ _ _ _ _ _ _ _ _ _
        refine G_istore (pc := 30) (ls' := [(5, _), (0, _), (1, _), (2, _), (3, _), (4, _)]) dX10_sum_30 (by decide) rfl ?_
        refine G_iconst (pc := 32) dX10_sum_32 ?_
        refine G_istore (pc := 33) (ls' := [(6, _), (5, _), (0, _), (1, _), (2, _), (3, _), (4, _)]) dX10_sum_33 (by decide) rfl ?_
        refine G_ls (ls' := [(6, _), (5, _), (0, _), (1, _), (2, _), (4, _)]) (lsub_c rfl (lsub_c rfl (lsub_c rfl (lsub_c rfl (lsub_c rfl (lsub_c rfl lsub_n)))))) ?_
        have := l_X10_sum hW (by omega) (by omega) (by omega) (em_bd (by omega)) (h1 (by omega) (by omega) (by omega)) 80 0 (by omega) (by omega)
        rwa [mix_0, mset_self] at this
      · show G _ _ _ _ _ _ _ _ _ _ _ _ _
        refine G_if_ne_f (pc := 19) 25 dX10_sum_19 rfl (by decide) (by decide) ?_
        refine G_bipush (pc := 22) dX10_sum_22 rfl ?_
        refine G_iret (pc := 24) dX10_sum_24 rfl (by decide) ?_
        exact h0 (by omega)
    · show G _ _ _ _ _ _ _ _ _ _ _ _ _
      refine G_if_eq_t (pc := 11) 22 dX10_sum_11 rfl (by decide) (by decide) ?_
      refine G_bipush (pc := 22) dX10_sum_22 rfl ?_
      refine G_iret (pc := 24) dX10_sum_24 rfl (by decide) ?_
      exact h0 (by omega)
  · show G _ _ _ _ _ _ _ _ _ _ _ _ _
    refine G_if_eq_t (pc := 4) 22 dX10_sum_4 rfl (by decide) (by decide) ?_
    refine G_bipush (pc := 22) dX10_sum_22 rfl ?_
    refine G_iret (pc := 24) dX10_sum_24 rfl (by decide) ?_
    exact h0 (by omega)
set_option maxRecDepth 100000 in
set_option maxHeartbeats 4000000 in
theorem l_X10_order {g : GC} {p : Int} {sh : SH} {S : SS} {n : Nat} {ys : Int → Int} {z : Int} {Q : Option Value → GA → Nat → Prop} (hW : MdW p sh S) (hy : mg S 8 = ys) (hz : 0 ≤ z ∧ z < 80) (hzz : ys z ≠ 0) (hlow : ∀ j : Int, 0 ≤ j → j < z → ys j = 0) (hq : Q (some (.int (iI z))) (hp g sh S) n) : ∀ (m : Nat) (i : Int), i + m = z → 0 ≤ i → G g mX10_order 3 0 0 41 [(3, .int (iI i)), (0, gr g 96)] [] (hp g sh S) n 0 0 Q := by
  intro m
  have hW' := hW
  obtain ⟨hP, h96, hp1, p2, h97, hred⟩ := hW'
  have hpb := hP.bd
  induction m with
  | zero =>
    intro i hi h0
    have e1 : S.2.1 97 (640 + i) = ys z := by rw [mg_at (r := 8) (i := i) (by omega) (by omega), hy, show i = z by omega]
    have hx := hred (640 + i)
    rw [e1] at hx
    refine S_aload_n (pc := 41) dX10_order_41 rfl ?_
    refine S_getR (pc := 42) dX10_order_42 fX10_13 (by assumption) rfl (by assumption) ?_
    refine G_sipush (pc := 45) dX10_order_45 rfl ?_
    refine G_iload_n (pc := 48) dX10_order_48 rfl ?_
    refine G_iadd (pc := 49) dX10_order_49 ?_
    refine S_iald (pc := 50) dX10_order_50 (by assumption) (by omega) ?_
    rw [e1]
    refine G_if_ne_t (pc := 51) 60 dX10_order_51 rfl (by omega) hzz ?_
    refine G_iload_n (pc := 60) dX10_order_60 rfl ?_
    refine G_iret (pc := 61) dX10_order_61 rfl (by decide) ?_
    rw [show i = z by omega]
    exact hq
  | succ m ih =>
    intro i hi h0
    have e1 : S.2.1 97 (640 + i) = 0 := by rw [mg_at (r := 8) (i := i) (by omega) (by omega), hy, hlow i h0 (by omega)]
    refine S_aload_n (pc := 41) dX10_order_41 rfl ?_
    refine S_getR (pc := 42) dX10_order_42 fX10_13 (by assumption) rfl (by assumption) ?_
    refine G_sipush (pc := 45) dX10_order_45 rfl ?_
    refine G_iload_n (pc := 48) dX10_order_48 rfl ?_
    refine G_iadd (pc := 49) dX10_order_49 ?_
    refine S_iald (pc := 50) dX10_order_50 (by assumption) (by omega) ?_
    rw [e1]
    refine G_if_ne_f (pc := 51) 60 dX10_order_51 rfl (by omega) (by omega) ?_
    refine G_iinc (pc := 54) (ls' := [(3, _), (0, _)]) dX10_order_54 rfl (by decide) rfl ?_
    refine G_goto (pc := 57) 41 dX10_order_57 rfl ?_
    exact ih (i + 1) (by omega) (by omega)
set_option maxRecDepth 100000 in
set_option maxHeartbeats 4000000 in
theorem c_X10_order {g : GC} {p a v : Int} {sh : SH} {S : SS} {n : Nat} {Q : Option Value → GA → Nat → Prop} (hW : MdW p sh S) (hr : (-2147483648 ≤ a ∧ a ≤ 2147483647) ∧ (-2147483648 ≤ v ∧ v ≤ 2147483647)) (h0 : ¬ (0 ≤ a ∧ a < 8) → Q (some (.int (iI (-2)))) (hp g sh S) n) (h1 : (0 ≤ a ∧ a < 8) → plen (mg S a) 80 = 0 → Q (some (.int (iI (-3)))) (hp g sh S) n)
    (z : Int) (hz : (0 ≤ a ∧ a < 8) → plen (mg S a) 80 ≠ 0 → (0 ≤ z ∧ z < 80) ∧ pmove p (v % p) (mg S a) 80 z ≠ 0 ∧ ∀ j : Int, 0 ≤ j → j < z → pmove p (v % p) (mg S a) 80 j = 0)
    (h2 : (0 ≤ a ∧ a < 8) → plen (mg S a) 80 ≠ 0 → Q (some (.int (iI z))) (hp g sh (mset S 8 (pmove p (v % p) (mg S a) 80))) n) : GCall g mX10_order 3 0 0 [gr g 96, .int (iI a), .int (iI v)] (hp g sh S) n Q := by
  have hW' := hW
  obtain ⟨hP, h96, hp1, p2, h97, hred⟩ := hW'
  have hpb := hP.bd
  obtain ⟨hr1, hr3⟩ := hr
  have hW2 : MdW p sh (mset S 8 (mg S a)) := MdW_set hW (mg_red hW)
  have hem := em_bd (z := v) (p := p) (by omega)
  have hbl := plen_bd (mg S a) 80
  have hs : Sup (pmove p (v % p) (mg S a) 80) 80 := by
    unfold pmove
    by_cases h0 : plen (mg S a) 80 - 1 < 0
    · rw [show (plen (mg S a) 80 - 1).toNat = 0 by omega]; exact mg_sup
    · exact mvout_sup mg_sup (by omega) _ (by omega)
  have hW3 : MdW p sh (mset S 8 (pmove p (v % p) (mg S a) 80)) := MdW_set hW (mvout_red (by omega) (mg_red hW) _)
  refine GCall.of (by decide) (Nat.le_of_ble_eq_true rfl) (ls := [(0, _), (1, _), (2, _)]) rfl ?_
  refine G_iload_n (pc := 0) dX10_order_0 rfl ?_
  refine G_callS (pc := 1) (d2 := 2) (mc2 := 0) (ms2 := 0) (As := [_]) dX10_order_1 kX10_isPoly lkX10_98 rfl rfl (Nat.le_of_ble_eq_true rfl) ⟨by decide, by decide⟩ (by decide) ?_
  refine c_X10_isPoly (by omega) (fun w1 => ?_) (fun w1 => ?_)
  · show G _ _ _ _ _ _ _ _ _ _ _ _ _
    refine G_if_ne_t (pc := 4) 10 dX10_order_4 rfl (by decide) (by decide) ?_
    refine S_aload_n (pc := 10) dX10_order_10 rfl ?_
    refine G_iload_n (pc := 11) dX10_order_11 rfl ?_
    refine S_callV (pc := 12) (ci := 10) (d2 := 1) (mc2 := 0) (ms2 := 0) (As := [_]) dX10_order_12 kX10_length lkX10_94 (by assumption) rfl rfl rfl (Nat.le_of_ble_eq_true rfl) ⟨by decide, by decide⟩ (by decide) ?_
    refine c_X10_length hW (by omega) ?_
    show G _ _ _ _ _ _ _ _ _ _ _ _ _
    refine G_if_ne (pc := 15) 21 dX10_order_15 rfl (by omega) (fun c15 => ?_) (fun c15 => ?_)
    · skip
      refine S_aload_n (pc := 21) dX10_order_21 rfl ?_
      refine G_iload_n (pc := 22) dX10_order_22 rfl ?_
      refine G_bipush (pc := 23) dX10_order_23 rfl ?_
      refine S_callV (pc := 25) (ci := 10) (d2 := 1) (mc2 := 0) (ms2 := 0) (As := [_, _]) dX10_order_25 kX10_copy lkX10_90 (by assumption) rfl rfl rfl (Nat.le_of_ble_eq_true rfl) ⟨by decide, by decide⟩ (by decide) ?_
      refine c_X10_copy hW (by omega) (by omega) ?_
      show G _ _ _ _ _ _ _ _ _ _ _ _ _
      refine S_aload_n (pc := 28) dX10_order_28 rfl ?_
      refine G_bipush (pc := 29) dX10_order_29 rfl ?_
      refine S_aload_n (pc := 31) dX10_order_31 rfl ?_
      refine G_iload_n (pc := 32) dX10_order_32 rfl ?_
      refine S_callV (pc := 33) (ci := 10) (d2 := 1) (mc2 := 0) (ms2 := 0) (As := [_]) dX10_order_33 kX10_rest lkX10_102 (by assumption) rfl rfl rfl (Nat.le_of_ble_eq_true rfl) ⟨by decide, by decide⟩ (by decide) ?_
      refine c_X10_rest hW2 hr3 ?_
      show G _ _ _ _ _ _ _ _ _ _ _ _ _
      refine S_callV (pc := 36) (ci := 10) (d2 := 2) (mc2 := 0) (ms2 := 0) (As := [_, _]) dX10_order_36 kX10_moveRow lkX10_278 (by assumption) rfl rfl rfl (Nat.le_of_ble_eq_true rfl) ⟨by decide, by decide⟩ (by decide) ?_
      refine c_X10_moveRow hW2 (by omega) hem ?_
      rw [mg_set mg_sup, mset_mset]
      show G _ _ _ _ _ _ _ _ _ _ _ _ _
      refine G_iconst (pc := 39) dX10_order_39 ?_
      refine G_istore_n (pc := 40) (ls' := [(3, _), (0, _), (1, _), (2, _)]) dX10_order_40 (by decide) rfl ?_
      refine G_ls (ls' := [(3, _), (0, _)]) (lsub_c rfl (lsub_c rfl lsub_n)) ?_
      obtain ⟨z1, z2, z3⟩ := hz (by omega) (by omega)
      exact l_X10_order hW3 (mg_set hs) z1 z2 z3 (h2 (by omega) (by omega)) z.toNat 0 (by omega) (by omega)
    · skip
      refine G_bipush (pc := 18) dX10_order_18 rfl ?_
      refine G_iret (pc := 20) dX10_order_20 rfl (by decide) ?_
      exact h1 (by omega) (by omega)
  · show G _ _ _ _ _ _ _ _ _ _ _ _ _
    refine G_if_ne_f (pc := 4) 10 dX10_order_4 rfl (by decide) (by decide) ?_
    refine G_bipush (pc := 7) dX10_order_7 rfl ?_
    refine G_iret (pc := 9) dX10_order_9 rfl (by decide) ?_
    exact h0 (by omega)
