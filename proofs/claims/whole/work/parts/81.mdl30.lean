/-! the Model: says, planOf, plan, planned -/
theorem MxW_scr {sh : SH} {S S' : SS} {tc ru : Int} (h : MScr S S') (hM : MxW sh S tc ru) : MxW sh S' tc ru := by
  obtain ⟨h96, q9, q10, h102, h103, e11, e12, htc, hru, r102, r103⟩ := hM
  exact ⟨h96, by rw [h.2.1]; exact q9, by rw [h.2.1]; exact q10, h102, h103, (h.1 96 11 (by decide)).trans e11, (h.1 96 12 (by decide)).trans e12, htc, hru, by rw [h.2.2.1 102 (by decide)]; exact r102, by rw [h.2.2.1 103 (by decide)]; exact r103⟩
theorem mtB_scr {S S' : SS} {t : Int} (h : MScr S S') : mtB S' t = mtB S t := by unfold mtB; rw [h.2.2.1 102 (by decide), h.2.2.1 103 (by decide)]
theorem MdW_R {p : Int} {sh : SH} {S S' : SS} (h : GrR S S') (hW : MdW p sh S) : MdW p sh S' := by
  obtain ⟨hP, h96, hp1, p2, h97, hred⟩ := hW
  exact ⟨hP, h96, by rw [h.2 96 1 (by decide)]; exact hp1, by rw [h.1]; exact p2, h97, by rw [h.1]; exact hred⟩
noncomputable def mcst (S : SS) (a b : Int) : Int → Int := fun wy => ctO (S.2.1 98 wy) (S.2.1 99 wy) (plen (mg S a) 80) (plen (mg S b) 80) (smf (mg S a) (mg S b))
noncomputable def msay (S : SS) (a b : Int) (X : List Int × List Int × List Int) : Int → Int := fun wy => sayv (wenv (plen (mg S a) 80) (plen (mg S b) 80) (S.2.1 99 wy) (S.2.1 98 wy) (smf (mg S a) (mg S b))) (tprt X (wprt (S.2.1 98 wy)))
/-- the best WAY of the first t, and what is said for it -/
def plo (cst say : Int → Int) : Nat → Int × Int
  | 0 => (-1, 0)
  | t + 1 => if cst t < 0 then plo cst say t else if (plo cst say t).1 = -1 ∨ say t < (plo cst say t).2 then ((t : Int), say t) else plo cst say t
theorem plo_bd {cst say : Int → Int} : ∀ t : Nat, -1 ≤ (plo cst say t).1 ∧ (plo cst say t).1 < t ∧ ((plo cst say t).1 ≠ -1 → 0 ≤ cst (plo cst say t).1)
  | 0 => ⟨by show (-1 : Int) ≤ -1; decide, by show (-1 : Int) < ((0 : Nat) : Int); decide, fun h => absurd rfl h⟩
  | t + 1 => by
    have h := plo_bd (cst := cst) (say := say) t
    unfold plo
    by_cases c : cst t < 0
    · rw [if_pos c]; exact ⟨h.1, by omega, h.2.2⟩
    · rw [if_neg c]
      by_cases c2 : (plo cst say t).1 = -1 ∨ say t < (plo cst say t).2
      · rw [if_pos c2]
        exact ⟨by show -1 ≤ (t : Int); omega, by show (t : Int) < ((t + 1 : Nat) : Int); omega, fun _ => by show 0 ≤ cst t; omega⟩
      · rw [if_neg c2]; exact ⟨h.1, by omega, h.2.2⟩
theorem plo_full {cst say : Int → Int} {t : Nat} (c : cst t < 0) : plo cst say (t + 1) = plo cst say t := if_pos c
theorem plo_new {cst say : Int → Int} {t : Nat} (c : ¬ cst t < 0) (c2 : (plo cst say t).1 = -1 ∨ say t < (plo cst say t).2) : plo cst say (t + 1) = ((t : Int), say t) := (if_neg c).trans (if_pos c2)
theorem plo_old {cst say : Int → Int} {t : Nat} (c : ¬ cst t < 0) (c2 : ¬ ((plo cst say t).1 = -1 ∨ say t < (plo cst say t).2)) : plo cst say (t + 1) = plo cst say t := (if_neg c).trans (if_neg c2)
set_option maxRecDepth 100000 in
set_option maxHeartbeats 4000000 in
theorem c_X10_says {g : GC} {p w wy a b tc ru : Int} {sh : SH} {S : SS} {n : Nat} {X : List Int × List Int × List Int} {Q : Option Value → GA → Nat → Prop} (hW : MdW p sh S) (hV : MvW sh S w) (hM : MxW sh S tc ru) (hr : (-2147483648 ≤ a ∧ a ≤ 2147483647) ∧ (-2147483648 ≤ b ∧ b ≤ 2147483647) ∧ (-2147483648 ≤ wy ∧ wy ≤ 2147483647)) (hs32 : ∀ r : Int, 0 ≤ r → r < 8 → Sup (mg S r) 32)
    (hX : ptx (tkk (mtB S ru)) = .inr X)
    (h0 : ¬ ((0 ≤ wy ∧ wy < w) ∧ (0 ≤ a ∧ a < 8) ∧ (0 ≤ b ∧ b < 8)) → Q (some (.long (iL (-4611686018427387904)))) (hp g sh S) n)
    (h1 : (0 ≤ wy ∧ wy < w) → (0 ≤ a ∧ a < 8) → (0 ≤ b ∧ b < 8) → ∀ S' : SS, GrR S S' → Q (some (.long (iL (msay S a b X wy)))) (hp g sh S') n) : GCall g mX10_says 48 0 0 [gr g 96, .int (iI wy), .int (iI a), .int (iI b)] (hp g sh S) n Q := by
  have h96 := hW.2.1
  obtain ⟨hr1, hr2, hr3⟩ := hr
  refine GCall.of (by decide) (Nat.le_of_ble_eq_true rfl) (ls := [(0, _), (1, _), (2, _), (3, _)]) rfl ?_
  have hgo : (0 ≤ wy ∧ wy < w) → (0 ≤ a ∧ a < 8) → (0 ≤ b ∧ b < 8) → ∀ (S' : SS) (x : Int), GrR S S' → x = msay S a b X wy → (-2147483648 ≤ x ∧ x ≤ 2147483647) → G g mX10_says 48 0 0 24 [(0, gr g 96), (1, .int (iI wy)), (2, .int (iI a)), (3, .int (iI b))] [.int (iI x)] (hp g sh S') n 0 0 Q := by
    intro z1 z2 z3 S' x r hx hxb
    refine G_i2l (pc := 24) dX10_says_24 (by omega) ?_
    refine G_goto (pc := 25) 31 dX10_says_25 rfl ?_
    refine G_lret (pc := 31) dX10_says_31 rfl (by decide) ?_
    rw [hx]
    exact h1 z1 z2 z3 S' r
  refine S_aload_n (pc := 0) dX10_says_0 rfl ?_
  refine G_iload_n (pc := 1) dX10_says_1 rfl ?_
  refine S_callV (pc := 2) (ci := 10) (d2 := 2) (mc2 := 0) (ms2 := 0) (As := [_]) dX10_says_2 kX10_isWay lkX10_136 (by assumption) rfl rfl rfl (Nat.le_of_ble_eq_true rfl) ⟨by decide, by decide⟩ (by decide) ?_
  refine c_X10_isWay hV (by omega) (fun w2 => ?_) (fun w2 => ?_)
  · show G _ _ _ _ _ _ _ _ _ _ _ _ _
    refine G_if_eq_f (pc := 5) 28 dX10_says_5 rfl (by decide) (by decide) ?_
    refine S_aload_n (pc := 8) dX10_says_8 rfl ?_
    refine G_iload_n (pc := 9) dX10_says_9 rfl ?_
    refine G_iload_n (pc := 10) dX10_says_10 rfl ?_
    refine S_callV (pc := 11) (ci := 10) (d2 := 3) (mc2 := 0) (ms2 := 0) (As := [_, _]) dX10_says_11 kX10_areBad lkX10_133 (by assumption) rfl rfl rfl (Nat.le_of_ble_eq_true rfl) ⟨by decide, by decide⟩ (by decide) ?_
    refine c_X10_areBad h96 (by omega) (fun w11 => ?_) (fun w11 => ?_)
    · show G _ _ _ _ _ _ _ _ _ _ _ _ _
      refine G_if_ne_t (pc := 14) 28 dX10_says_14 rfl (by decide) (by decide) ?_
      refine G_ldc2 (pc := 28) (z := -4611686018427387904) dX10_says_28 coX10_264 rfl ?_
      refine G_lret (pc := 31) dX10_says_31 rfl (by decide) ?_
      exact h0 (by omega)
    · show G _ _ _ _ _ _ _ _ _ _ _ _ _
      refine G_if_ne_f (pc := 14) 28 dX10_says_14 rfl (by decide) (by decide) ?_
      refine S_aload_n (pc := 17) dX10_says_17 rfl ?_
      refine G_iload_n (pc := 18) dX10_says_18 rfl ?_
      refine G_iload_n (pc := 19) dX10_says_19 rfl ?_
      refine G_iload_n (pc := 20) dX10_says_20 rfl ?_
      refine S_callV (pc := 21) (ci := 10) (d2 := 47) (mc2 := 0) (ms2 := 0) (As := [_, _, _]) dX10_says_21 kX10_saysOf lkX10_154 (by assumption) rfl rfl rfl (Nat.le_of_ble_eq_true rfl) ⟨by decide, by decide⟩ (by decide) ?_
      refine c_X10_saysOf hW hV hM (by omega) (by omega) (hs32 a (by omega) (by omega)) (hs32 b (by omega) (by omega)) (by omega) rfl rfl hX rfl (fun S' r hv => ?_)
      exact hgo (by omega) (by omega) (by omega) S' _ r rfl hv.2
  · show G _ _ _ _ _ _ _ _ _ _ _ _ _
    refine G_if_eq_t (pc := 5) 28 dX10_says_5 rfl (by decide) (by decide) ?_
    refine G_ldc2 (pc := 28) (z := -4611686018427387904) dX10_says_28 coX10_264 rfl ?_
    refine G_lret (pc := 31) dX10_says_31 rfl (by decide) ?_
    exact h0 (by omega)
set_option maxRecDepth 100000 in
set_option maxHeartbeats 4000000 in
theorem l_X10_planOf {g : GC} {p w a b tc ru : Int} {sh : SH} {S0 : SS} {n : Nat} {X : List Int × List Int × List Int} {cst say : Int → Int} {Q : Option Value → GA → Nat → Prop} (ha : 0 ≤ a ∧ a < 8) (hb : 0 ≤ b ∧ b < 8) (sa : Sup (mg S0 a) 32) (sb : Sup (mg S0 b) 32) (hcut : ∀ i : Int, 0 ≤ i → i < w → 1 ≤ S0.2.1 99 i ∧ S0.2.1 99 i ≤ 16) (hX : ptx (tkk (mtB S0 ru)) = .inr X) (hcst : cst = mcst S0 a b) (hsay : say = msay S0 a b X) (hV0 : MvW sh S0 w) (hM0 : MxW sh S0 tc ru) (hL0 : MlW sh S0)
    (hq : ∀ S : SS, MScr S0 S → MdW p sh S → Q (some (.int (iI (plo cst say w.toNat).1))) (hp g sh S) n) :
    ∀ (k t : Nat) (S : SS), t + k = w → MScr S0 S → MdW p sh S → S.2.1 97 = S0.2.1 97 → (-2147483648 ≤ (plo cst say t).2 ∧ (plo cst say t).2 ≤ 2147483647) → G g mX10_planOf 48 0 0 8 [(5, .int (iI t)), (4, .int (iI (plo cst say t).2)), (3, .int (iI (plo cst say t).1)), (0, gr g 96), (1, .int (iI a)), (2, .int (iI b))] [] (hp g sh S) n 0 0 Q := by
  have hV0' := hV0
  obtain ⟨h96, q4, q5, h98, h99, hw, hwb, r98, r99⟩ := hV0'
  intro k
  induction k with
  | zero =>
    intro t S ht hS hW h97 hpl
    have e3 : S.1 96 3 = w := (hS.1 96 3 (by decide)).trans hw
    have hpb := plo_bd (cst := cst) (say := say) t
    refine G_iload (pc := 8) dX10_planOf_8 rfl ?_
    refine S_aload_n (pc := 10) dX10_planOf_10 rfl ?_
    refine S_getI (pc := 11) dX10_planOf_11 fX10_112 (by assumption) rfl ?_
    rw [e3]
    refine G_icmp_ge_t (pc := 14) 68 dX10_planOf_14 rfl (by omega) (by omega) ?_
    refine G_iload_n (pc := 68) dX10_planOf_68 rfl ?_
    refine G_iret (pc := 69) dX10_planOf_69 rfl (by decide) ?_
    rw [show t = w.toNat by omega]
    exact hq S hS hW
  | succ k ih =>
    intro t S ht hS hW h97 hpl
    have e3 : S.1 96 3 = w := (hS.1 96 3 (by decide)).trans hw
    have hpb := plo_bd (cst := cst) (say := say) t
    have mgs : ∀ r : Int, mg S r = mg S0 r := fun r => MScr_97 h97
    have hV := MvW_scr hS hV0
    have hct := hcut t (by omega) (by omega)
    have e98 : S.2.1 98 = S0.2.1 98 := hS.2.2.1 98 (by decide)
    have e99 : S.2.1 99 = S0.2.1 99 := hS.2.2.1 99 (by decide)
    have hla := plen_bd (mg S0 a) 80
    have hlb := plen_bd (mg S0 b) 80
    have hla2 : plen (mg S0 a) 80 ≤ 32 := plen_le (by omega) (fun j h1 _ => sa j (by omega))
    have hlb2 : plen (mg S0 b) 80 ≤ 32 := plen_le (by omega) (fun j h1 _ => sb j (by omega))
    have hcb := ctO_bd (sm := smf (mg S0 a) (mg S0 b)) (r98 t) hct ⟨hla.1, hla2⟩ ⟨hlb.1, hlb2⟩
    have ect : cst t = ctO (S0.2.1 98 t) (S0.2.1 99 t) (plen (mg S0 a) 80) (plen (mg S0 b) 80) (smf (mg S0 a) (mg S0 b)) := by rw [hcst]; rfl
    rw [← ect] at hcb
    have K65 : ∀ (S1 : SS) (bs best : Int), MScr S0 S1 → MdW p sh S1 → S1.2.1 97 = S0.2.1 97 → plo cst say (t + 1) = (best, bs) → (-2147483648 ≤ bs ∧ bs ≤ 2147483647) → G g mX10_planOf 48 0 0 62 [(5, .int (iI t)), (4, .int (iI bs)), (3, .int (iI best)), (0, gr g 96), (1, .int (iI a)), (2, .int (iI b))] [] (hp g sh S1) n 0 0 Q := by
      intro S1 bs best r1 r2 r3 r4 r5
      have hn := ih (t + 1) S1 (by omega) r1 r2 r3 (by rw [r4]; exact r5)
      rw [r4, show ((t + 1 : Nat) : Int) = t + 1 by omega] at hn
      refine G_iinc (pc := 62) (ls' := [(5, _), (4, _), (3, _), (0, _), (1, _), (2, _)]) dX10_planOf_62 rfl (by decide) rfl ?_
      refine G_goto (pc := 65) 8 dX10_planOf_65 rfl ?_
      exact hn
    have K25 : ∀ S1 : SS, MScr S0 S1 → MdW p sh S1 → S1.2.1 97 = S0.2.1 97 → G g mX10_planOf 48 0 0 25 [(5, .int (iI t)), (4, .int (iI (plo cst say t).2)), (3, .int (iI (plo cst say t).1)), (0, gr g 96), (1, .int (iI a)), (2, .int (iI b))] [.long (iL (cst t))] (hp g sh S1) n 0 0 Q := by
      intro S1 r1 r2 r3
      by_cases cf : cst t < 0
      · have hk := K65 S1 (plo cst say t).2 (plo cst say t).1 r1 r2 r3 (plo_full cf) hpl
        refine G_lconst (pc := 25) (v := 0) dX10_planOf_25 rfl ?_
        refine G_lcmp (pc := 26) dX10_planOf_26 (by omega) ?_
        rw [if_pos cf]
        refine G_if_ge_f (pc := 27) 33 dX10_planOf_27 rfl (by omega) (by decide) ?_
        refine G_goto (pc := 30) 62 dX10_planOf_30 rfl ?_
        exact hk
      · have mgs1 : ∀ r : Int, mg S1 r = mg S0 r := fun r => MScr_97 r3
        have K41 : ∀ (S2 : SS) (x : Int), MScr S0 S2 → MdW p sh S2 → S2.2.1 97 = S0.2.1 97 → x = say t → (-2147483648 ≤ x ∧ x ≤ 2147483647) → G g mX10_planOf 48 0 0 41 [(5, .int (iI t)), (4, .int (iI (plo cst say t).2)), (3, .int (iI (plo cst say t).1)), (0, gr g 96), (1, .int (iI a)), (2, .int (iI b))] [.int (iI x)] (hp g sh S2) n 0 0 Q := by
          intro S2 x q1 q2 q3 q4 q5
          rw [q4]
          rw [q4] at q5
          refine G_istore (pc := 41) (ls' := [(6, _), (5, _), (4, _), (3, _), (0, _), (1, _), (2, _)]) dX10_planOf_41 (by decide) rfl ?_
          refine G_iload_n (pc := 43) dX10_planOf_43 rfl ?_
          refine G_iconst (pc := 44) dX10_planOf_44 ?_
          refine G_icmp_eq (pc := 45) 55 dX10_planOf_45 rfl (by omega) (fun c45 => ?_) (fun c45 => ?_)
          · skip
            refine G_iload (pc := 55) dX10_planOf_55 rfl ?_
            refine G_istore_n (pc := 57) (ls' := [(3, _), (6, _), (5, _), (4, _), (0, _), (1, _), (2, _)]) dX10_planOf_57 (by decide) rfl ?_
            refine G_iload (pc := 58) dX10_planOf_58 rfl ?_
            refine G_istore (pc := 60) (ls' := [(4, _), (3, _), (6, _), (5, _), (0, _), (1, _), (2, _)]) dX10_planOf_60 (by decide) rfl ?_
            refine G_ls (ls' := [(5, _), (4, _), (3, _), (0, _), (1, _), (2, _)]) (lsub_c rfl (lsub_c rfl (lsub_c rfl (lsub_c rfl (lsub_c rfl (lsub_c rfl lsub_n)))))) ?_
            first
              | exact K65 S2 _ _ q1 q2 q3 (plo_new cf (by omega)) q5
              | exact K65 S2 _ _ q1 q2 q3 (plo_old cf (by omega)) hpl
          · skip
            refine G_iload (pc := 48) dX10_planOf_48 rfl ?_
            refine G_iload (pc := 50) dX10_planOf_50 rfl ?_
            refine G_icmp_ge (pc := 52) 62 dX10_planOf_52 rfl (by omega) (fun c52 => ?_) (fun c52 => ?_)
            · skip
              refine G_ls (ls' := [(5, _), (4, _), (3, _), (0, _), (1, _), (2, _)]) (lsub_c rfl (lsub_c rfl (lsub_c rfl (lsub_c rfl (lsub_c rfl (lsub_c rfl lsub_n)))))) ?_
              first
                | exact K65 S2 _ _ q1 q2 q3 (plo_new cf (by omega)) q5
                | exact K65 S2 _ _ q1 q2 q3 (plo_old cf (by omega)) hpl
            · skip
              refine G_iload (pc := 55) dX10_planOf_55 rfl ?_
              refine G_istore_n (pc := 57) (ls' := [(3, _), (6, _), (5, _), (4, _), (0, _), (1, _), (2, _)]) dX10_planOf_57 (by decide) rfl ?_
              refine G_iload (pc := 58) dX10_planOf_58 rfl ?_
              refine G_istore (pc := 60) (ls' := [(4, _), (3, _), (6, _), (5, _), (0, _), (1, _), (2, _)]) dX10_planOf_60 (by decide) rfl ?_
              refine G_ls (ls' := [(5, _), (4, _), (3, _), (0, _), (1, _), (2, _)]) (lsub_c rfl (lsub_c rfl (lsub_c rfl (lsub_c rfl (lsub_c rfl (lsub_c rfl lsub_n)))))) ?_
              first
                | exact K65 S2 _ _ q1 q2 q3 (plo_new cf (by omega)) q5
                | exact K65 S2 _ _ q1 q2 q3 (plo_old cf (by omega)) hpl
        have hgt : 0 ≤ cst t := by omega
        refine G_lconst (pc := 25) (v := 0) dX10_planOf_25 rfl ?_
        refine G_lcmp (pc := 26) dX10_planOf_26 (by omega) ?_
        rw [if_neg cf]
        refine G_if_ge_t (pc := 27) 33 dX10_planOf_27 rfl (by split <;> decide) (by split <;> decide) ?_
        refine S_aload_n (pc := 33) dX10_planOf_33 rfl ?_
        refine G_iload (pc := 34) dX10_planOf_34 rfl ?_
        refine G_iload_n (pc := 36) dX10_planOf_36 rfl ?_
        refine G_iload_n (pc := 37) dX10_planOf_37 rfl ?_
        refine S_callV (pc := 38) (ci := 10) (d2 := 47) (mc2 := 0) (ms2 := 0) (As := [_, _, _]) dX10_planOf_38 kX10_saysOf lkX10_154 (by assumption) rfl rfl rfl (Nat.le_of_ble_eq_true rfl) ⟨by decide, by decide⟩ (by decide) ?_
        refine c_X10_saysOf r2 (MvW_scr r1 hV0) (MxW_scr r1 hM0) ha hb (by rw [mgs1]; exact sa) (by rw [mgs1]; exact sb) (by omega) rfl rfl (by rw [mtB_scr r1]; exact hX) rfl (fun S2 q1 q2 => ?_)
        exact K41 S2 _ (MScr_tr r1 (GrR_scr q1)) (MdW_R q1 r2) (by rw [q1.1]; exact r3) (by rw [hsay, r1.2.2.1 98 (by decide), r1.2.2.1 99 (by decide), mgs1, mgs1]; rfl) q2.2
    refine G_iload (pc := 8) dX10_planOf_8 rfl ?_
    refine S_aload_n (pc := 10) dX10_planOf_10 rfl ?_
    refine S_getI (pc := 11) dX10_planOf_11 fX10_112 (by assumption) rfl ?_
    rw [e3]
    refine G_icmp_ge_f (pc := 14) 68 dX10_planOf_14 rfl (by omega) (by omega) ?_
    refine S_aload_n (pc := 17) dX10_planOf_17 rfl ?_
    refine G_iload_n (pc := 18) dX10_planOf_18 rfl ?_
    refine G_iload_n (pc := 19) dX10_planOf_19 rfl ?_
    refine G_iload (pc := 20) dX10_planOf_20 rfl ?_
    refine S_callV (pc := 22) (ci := 10) (d2 := 2) (mc2 := 0) (ms2 := 0) (As := [_, _, _]) dX10_planOf_22 kX10_costOf lkX10_139 (by assumption) rfl rfl rfl (Nat.le_of_ble_eq_true rfl) ⟨by decide, by decide⟩ (by decide) ?_
    refine c_X10_costOf hW hV (MlW_scr hS hL0) ha hb (by rw [mgs]; exact sa) (by rw [mgs]; exact sb) (by omega) rfl rfl (by rw [e99]; exact hct) (fun S1 r1 r2 r3 r4 => ?_)
    rw [e98, e99, mgs, mgs, ← ect]
    exact K25 S1 (MScr_tr hS r1) r2 (r4.trans h97)
set_option maxRecDepth 100000 in
set_option maxHeartbeats 4000000 in
theorem c_X10_planOf {g : GC} {p w a b tc ru : Int} {sh : SH} {S : SS} {n : Nat} {X : List Int × List Int × List Int} {Q : Option Value → GA → Nat → Prop} (hW : MdW p sh S) (hV : MvW sh S w) (hM : MxW sh S tc ru) (hL : MlW sh S) (ha : 0 ≤ a ∧ a < 8) (hb : 0 ≤ b ∧ b < 8) (sa : Sup (mg S a) 32) (sb : Sup (mg S b) 32) (hcut : ∀ i : Int, 0 ≤ i → i < w → 1 ≤ S.2.1 99 i ∧ S.2.1 99 i ≤ 16) (hX : ptx (tkk (mtB S ru)) = .inr X)
    (hq : ∀ S' : SS, MScr S S' → MdW p sh S' → Q (some (.int (iI (plo (mcst S a b) (msay S a b X) w.toNat).1))) (hp g sh S') n) : GCall g mX10_planOf 48 0 0 [gr g 96, .int (iI a), .int (iI b)] (hp g sh S) n Q := by
  have hwb := hV.2.2.2.2.2.2.1
  refine GCall.of (by decide) (Nat.le_of_ble_eq_true rfl) (ls := [(0, _), (1, _), (2, _)]) rfl ?_
  refine G_iconst (pc := 0) dX10_planOf_0 ?_
  refine G_istore_n (pc := 1) (ls' := [(3, _), (0, _), (1, _), (2, _)]) dX10_planOf_1 (by decide) rfl ?_
  refine G_iconst (pc := 2) dX10_planOf_2 ?_
  refine G_istore (pc := 3) (ls' := [(4, _), (3, _), (0, _), (1, _), (2, _)]) dX10_planOf_3 (by decide) rfl ?_
  refine G_iconst (pc := 5) dX10_planOf_5 ?_
  refine G_istore (pc := 6) (ls' := [(5, _), (4, _), (3, _), (0, _), (1, _), (2, _)]) dX10_planOf_6 (by decide) rfl ?_
  exact l_X10_planOf ha hb sa sb hcut hX rfl rfl hV hM hL hq w.toNat 0 S (by omega) MScr_rf hW rfl (by show (-2147483648 : Int) ≤ 0 ∧ (0 : Int) ≤ 2147483647; decide)
set_option maxRecDepth 100000 in
set_option maxHeartbeats 4000000 in
theorem c_X10_plan {g : GC} {p w a b tc ru : Int} {sh : SH} {S : SS} {n : Nat} {X : List Int × List Int × List Int} {Q : Option Value → GA → Nat → Prop} (hW : MdW p sh S) (hV : MvW sh S w) (hM : MxW sh S tc ru) (hL : MlW sh S) (hr : (-2147483648 ≤ a ∧ a ≤ 2147483647) ∧ (-2147483648 ≤ b ∧ b ≤ 2147483647)) (hs32 : ∀ r : Int, 0 ≤ r → r < 8 → Sup (mg S r) 32) (hcut : ∀ i : Int, 0 ≤ i → i < w → 1 ≤ S.2.1 99 i ∧ S.2.1 99 i ≤ 16) (hX : ptx (tkk (mtB S ru)) = .inr X)
    (h0 : ¬ ((0 ≤ a ∧ a < 8) ∧ (0 ≤ b ∧ b < 8)) → Q (some (.int (iI (-2)))) (hp g sh S) n)
    (h1 : (0 ≤ a ∧ a < 8) → (0 ≤ b ∧ b < 8) → ∀ S' : SS, MScr S S' → MdW p sh S' → Q (some (.int (iI (plo (mcst S a b) (msay S a b X) w.toNat).1))) (hp g sh S') n) : GCall g mX10_plan 49 0 0 [gr g 96, .int (iI a), .int (iI b)] (hp g sh S) n Q := by
  have h96 := hW.2.1
  obtain ⟨hr1, hr2⟩ := hr
  refine GCall.of (by decide) (Nat.le_of_ble_eq_true rfl) (ls := [(0, _), (1, _), (2, _)]) rfl ?_
  refine S_aload_n (pc := 0) dX10_plan_0 rfl ?_
  refine G_iload_n (pc := 1) dX10_plan_1 rfl ?_
  refine G_iload_n (pc := 2) dX10_plan_2 rfl ?_
  refine S_callV (pc := 3) (ci := 10) (d2 := 3) (mc2 := 0) (ms2 := 0) (As := [_, _]) dX10_plan_3 kX10_areBad lkX10_133 (by assumption) rfl rfl rfl (Nat.le_of_ble_eq_true rfl) ⟨by decide, by decide⟩ (by decide) ?_
  refine c_X10_areBad h96 (by omega) (fun w3 => ?_) (fun w3 => ?_)
  · show G _ _ _ _ _ _ _ _ _ _ _ _ _
    refine G_if_eq_f (pc := 6) 14 dX10_plan_6 rfl (by decide) (by decide) ?_
    refine G_bipush (pc := 9) dX10_plan_9 rfl ?_
    refine G_goto (pc := 11) 20 dX10_plan_11 rfl ?_
    refine G_iret (pc := 20) dX10_plan_20 rfl (by decide) ?_
    first | exact h0 (by omega) | exact h1 (by omega) (by omega) S' r1 r2
  · show G _ _ _ _ _ _ _ _ _ _ _ _ _
    refine G_if_eq_t (pc := 6) 14 dX10_plan_6 rfl (by decide) (by decide) ?_
    refine S_aload_n (pc := 14) dX10_plan_14 rfl ?_
    refine G_iload_n (pc := 15) dX10_plan_15 rfl ?_
    refine G_iload_n (pc := 16) dX10_plan_16 rfl ?_
    refine S_callV (pc := 17) (ci := 10) (d2 := 48) (mc2 := 0) (ms2 := 0) (As := [_, _]) dX10_plan_17 kX10_planOf lkX10_158 (by assumption) rfl rfl rfl (Nat.le_of_ble_eq_true rfl) ⟨by decide, by decide⟩ (by decide) ?_
    refine c_X10_planOf hW hV hM hL (by omega) (by omega) (hs32 a (by omega) (by omega)) (hs32 b (by omega) (by omega)) hcut hX (fun S' r1 r2 => ?_)
    · show G _ _ _ _ _ _ _ _ _ _ _ _ _
      refine G_iret (pc := 20) dX10_plan_20 rfl (by decide) ?_
      first | exact h0 (by omega) | exact h1 (by omega) (by omega) S' r1 r2
set_option maxRecDepth 100000 in
set_option maxHeartbeats 4000000 in
theorem c_X10_planned {g : GC} {p w t a b tc ru : Int} {sh : SH} {S : SS} {n : Nat} {X : List Int × List Int × List Int} {bst : Int} {Q : Option Value → GA → Nat → Prop} (hW : MdW p sh S) (hV : MvW sh S w) (hM : MxW sh S tc ru) (hL : MlW sh S) (hr : (-2147483648 ≤ t ∧ t ≤ 2147483647) ∧ (-2147483648 ≤ a ∧ a ≤ 2147483647) ∧ (-2147483648 ≤ b ∧ b ≤ 2147483647)) (hs32 : ∀ r : Int, 0 ≤ r → r < 8 → Sup (mg S r) 32) (hcut : ∀ i : Int, 0 ≤ i → i < w → 1 ≤ S.2.1 99 i ∧ S.2.1 99 i ≤ 16) (hX : ptx (tkk (mtB S ru)) = .inr X) (hbst : bst = (plo (mcst S a b) (msay S a b X) w.toNat).1)
    (h0 : ¬ ((0 ≤ t ∧ t < 8) ∧ (0 ≤ a ∧ a < 8) ∧ (0 ≤ b ∧ b < 8)) → Q (some (.int (iI (-2)))) (hp g sh S) n)
    (h1 : (0 ≤ t ∧ t < 8) → (0 ≤ a ∧ a < 8) → (0 ≤ b ∧ b < 8) → bst = -1 → ∀ S' : SS, MScr S S' → MdW p sh S' → Q (some (.int (iI (-3)))) (hp g sh S') n)
    (h2 : (0 ≤ t ∧ t < 8) → (0 ≤ a ∧ a < 8) → (0 ≤ b ∧ b < 8) → (0 ≤ bst ∧ bst < w) → (0 < plen (mg S a) 80 ∧ 0 < plen (mg S b) 80 ∧ 32 < plen (mg S a) 80 + plen (mg S b) 80 - 1) → ∀ S' : SS, MScr S S' → MdW p sh S' → Q (some (.int (iI (-4)))) (hp g sh S') n)
    (h3 : (0 ≤ t ∧ t < 8) → (0 ≤ a ∧ a < 8) → (0 ≤ b ∧ b < 8) → (0 ≤ bst ∧ bst < w) → ¬ (0 < plen (mg S a) 80 ∧ 0 < plen (mg S b) 80 ∧ 32 < plen (mg S a) 80 + plen (mg S b) 80 - 1) → ∀ S' : SS, MScr S S' → MdW p sh S' → Q (some (.int (iI bst))) (hp g sh (setF (mset S' t (pmul p (mg S a) (mg S b))) 96 6 (S.1 96 6 + mcst S a b bst))) n) : GCall g mX10_planned 49 0 0 [gr g 96, .int (iI t), .int (iI a), .int (iI b)] (hp g sh S) n Q := by
  have h96 := hW.2.1
  obtain ⟨hr0, hr1, hr2⟩ := hr
  have hwb := hV.2.2.2.2.2.2.1
  have hpb := plo_bd (cst := mcst S a b) (say := msay S a b X) w.toNat
  rw [← hbst] at hpb
  have r98 := hV.2.2.2.2.2.2.2.1
  refine GCall.of (by decide) (Nat.le_of_ble_eq_true rfl) (ls := [(0, _), (1, _), (2, _), (3, _)]) rfl ?_
  have hgo : (0 ≤ t ∧ t < 8) → (0 ≤ a ∧ a < 8) → (0 ≤ b ∧ b < 8) → ∀ S1 : SS, MScr S S1 → MdW p sh S1 → G g mX10_planned 49 0 0 25 [(0, gr g 96), (1, .int (iI t)), (2, .int (iI a)), (3, .int (iI b))] [.int (iI bst)] (hp g sh S1) n 0 0 Q := by
    intro z0 z1 z2 S1 r1 r2
    have ma : mg S1 a = mg S a := r1.2.2.2.1 a z1.1 z1.2
    have mb : mg S1 b = mg S b := r1.2.2.2.1 b z2.1 z2.2
    by_cases c : bst = -1
    · skip
      refine G_istore (pc := 25) (ls' := [(4, _), (0, _), (1, _), (2, _), (3, _)]) dX10_planned_25 (by decide) rfl ?_
      refine G_iload (pc := 27) dX10_planned_27 rfl ?_
      refine G_iconst (pc := 29) dX10_planned_29 ?_
      refine G_icmp_ne_f (pc := 30) 36 dX10_planned_30 rfl (by omega) (by omega) ?_
      refine G_bipush (pc := 33) dX10_planned_33 rfl ?_
      refine G_iret (pc := 35) dX10_planned_35 rfl (by decide) ?_
      exact h1 z0 z1 z2 c S1 r1 r2
    · have hcb := hpb.2.2 c
      have hla := plen_bd (mg S a) 80
      have hlb := plen_bd (mg S b) 80
      have hla2 : plen (mg S a) 80 ≤ 32 := plen_le (by omega) (fun j h1 _ => hs32 a z1.1 z1.2 j (by omega))
      have hlb2 : plen (mg S b) 80 ≤ 32 := plen_le (by omega) (fun j h1 _ => hs32 b z2.1 z2.2 j (by omega))
      have hcb2 := ctO_bd (sm := smf (mg S a) (mg S b)) (r98 bst) (hcut bst (by omega) (by omega)) ⟨hla.1, hla2⟩ ⟨hlb.1, hlb2⟩
      have emc : mcst S a b bst = ctO (S.2.1 98 bst) (S.2.1 99 bst) (plen (mg S a) 80) (plen (mg S b) 80) (smf (mg S a) (mg S b)) := rfl
      rw [← emc] at hcb2
      have ec : ∀ c : Int, c = ctO (S1.2.1 98 bst) (S1.2.1 99 bst) (plen (mg S1 a) 80) (plen (mg S1 b) 80) (smf (mg S1 a) (mg S1 b)) → c = mcst S a b bst := fun c hc => by rw [hc, r1.2.2.1 98 (by decide), r1.2.2.1 99 (by decide), ma, mb]; rfl
      have K45a : ∀ S' : SS, MScr S S' → MdW p sh S' → (0 < plen (mg S a) 80 ∧ 0 < plen (mg S b) 80 ∧ 32 < plen (mg S a) 80 + plen (mg S b) 80 - 1) → G g mX10_planned 49 0 0 45 [(4, .int (iI bst)), (0, gr g 96), (1, .int (iI t)), (2, .int (iI a)), (3, .int (iI b))] [.int (iI (-4))] (hp g sh S') n 0 0 Q := by
        intro S' q1 q2 q3
        refine G_bipush (pc := 45) dX10_planned_45 rfl ?_
        refine G_icmp_ne_f (pc := 47) 55 dX10_planned_47 rfl (by omega) (by decide) ?_
        refine G_bipush (pc := 50) dX10_planned_50 rfl ?_
        refine G_goto (pc := 52) 57 dX10_planned_52 rfl ?_
        refine G_iret (pc := 57) dX10_planned_57 rfl (by decide) ?_
        exact h2 z0 z1 z2 (by omega) q3 S' q1 q2
      have K45b : ∀ (S' : SS) (c : Int), (0 ≤ c ∧ c ≤ 5000) → Q (some (.int (iI bst))) (hp g sh S') n → G g mX10_planned 49 0 0 45 [(4, .int (iI bst)), (0, gr g 96), (1, .int (iI t)), (2, .int (iI a)), (3, .int (iI b))] [.int (iI c)] (hp g sh S') n 0 0 Q := by
        intro S' c q1 q2
        refine G_bipush (pc := 45) dX10_planned_45 rfl ?_
        refine G_icmp_ne_t (pc := 47) 55 dX10_planned_47 rfl (by omega) (by omega) ?_
        refine G_iload (pc := 55) dX10_planned_55 rfl ?_
        refine G_iret (pc := 57) dX10_planned_57 rfl (by decide) ?_
        exact q2
      refine G_istore (pc := 25) (ls' := [(4, _), (0, _), (1, _), (2, _), (3, _)]) dX10_planned_25 (by decide) rfl ?_
      refine G_iload (pc := 27) dX10_planned_27 rfl ?_
      refine G_iconst (pc := 29) dX10_planned_29 ?_
      refine G_icmp_ne_t (pc := 30) 36 dX10_planned_30 rfl (by omega) (by omega) ?_
      refine S_aload_n (pc := 36) dX10_planned_36 rfl ?_
      refine G_iload_n (pc := 37) dX10_planned_37 rfl ?_
      refine G_iload_n (pc := 38) dX10_planned_38 rfl ?_
      refine G_iload_n (pc := 39) dX10_planned_39 rfl ?_
      refine G_iload (pc := 40) dX10_planned_40 rfl ?_
      refine S_callV (pc := 42) (ci := 10) (d2 := 4) (mc2 := 0) (ms2 := 0) (As := [_, _, _, _]) dX10_planned_42 kX10_times lkX10_161 (by assumption) rfl rfl rfl (Nat.le_of_ble_eq_true rfl) ⟨by decide, by decide⟩ (by decide) ?_
      refine c_X10_times r2 (MvW_scr r1 hV) (MlW_scr r1 hL) (by omega) (fun r y0 y1 => by rw [r1.2.2.2.1 r y0 y1]; exact hs32 r y0 y1) (fun i y0 y1 => by rw [r1.2.2.1 99 (by decide)]; exact hcut i y0 y1) (fun z => absurd (by omega) z) (fun _ _ _ _ c hc hor S' q1 q2 => ?_) (fun _ _ _ _ c hc hc0 hnl S' q1 q2 => ?_)
      · show G _ _ _ _ _ _ _ _ _ _ _ _ _
        first
          | exact K45a S' (MScr_tr r1 q1) q2 (by
              have e1 := ec c hc
              rw [ma, mb] at hor
              omega)
          | (have e1 := ec c hc
             rw [ma, mb] at hnl
             refine K45b _ c (by omega) ?_
             have := h3 z0 z1 z2 (by omega) hnl S' (MScr_tr r1 q1) q2
             rw [e1, ma, mb, r1.1 96 6 (by decide)]
             exact this)
      · show G _ _ _ _ _ _ _ _ _ _ _ _ _
        first
          | exact K45a S' (MScr_tr r1 q1) q2 (by
              have e1 := ec c hc
              rw [ma, mb] at hor
              omega)
          | (have e1 := ec c hc
             rw [ma, mb] at hnl
             refine K45b _ c (by omega) ?_
             have := h3 z0 z1 z2 (by omega) hnl S' (MScr_tr r1 q1) q2
             rw [e1, ma, mb, r1.1 96 6 (by decide)]
             exact this)
  refine G_iload_n (pc := 0) dX10_planned_0 rfl ?_
  refine G_callS (pc := 1) (d2 := 2) (mc2 := 0) (ms2 := 0) (As := [_]) dX10_planned_1 kX10_isPoly lkX10_98 rfl rfl (Nat.le_of_ble_eq_true rfl) ⟨by decide, by decide⟩ (by decide) ?_
  refine c_X10_isPoly (by omega) (fun w1 => ?_) (fun w1 => ?_)
  · show G _ _ _ _ _ _ _ _ _ _ _ _ _
    refine G_if_eq_f (pc := 4) 16 dX10_planned_4 rfl (by decide) (by decide) ?_
    refine S_aload_n (pc := 7) dX10_planned_7 rfl ?_
    refine G_iload_n (pc := 8) dX10_planned_8 rfl ?_
    refine G_iload_n (pc := 9) dX10_planned_9 rfl ?_
    refine S_callV (pc := 10) (ci := 10) (d2 := 3) (mc2 := 0) (ms2 := 0) (As := [_, _]) dX10_planned_10 kX10_areBad lkX10_133 (by assumption) rfl rfl rfl (Nat.le_of_ble_eq_true rfl) ⟨by decide, by decide⟩ (by decide) ?_
    refine c_X10_areBad h96 (by omega) (fun w10 => ?_) (fun w10 => ?_)
    · show G _ _ _ _ _ _ _ _ _ _ _ _ _
      refine G_if_eq_f (pc := 13) 19 dX10_planned_13 rfl (by decide) (by decide) ?_
      refine G_bipush (pc := 16) dX10_planned_16 rfl ?_
      refine G_iret (pc := 18) dX10_planned_18 rfl (by decide) ?_
      exact h0 (by omega)
    · show G _ _ _ _ _ _ _ _ _ _ _ _ _
      refine G_if_eq_t (pc := 13) 19 dX10_planned_13 rfl (by decide) (by decide) ?_
      refine S_aload_n (pc := 19) dX10_planned_19 rfl ?_
      refine G_iload_n (pc := 20) dX10_planned_20 rfl ?_
      refine G_iload_n (pc := 21) dX10_planned_21 rfl ?_
      refine S_callV (pc := 22) (ci := 10) (d2 := 48) (mc2 := 0) (ms2 := 0) (As := [_, _]) dX10_planned_22 kX10_planOf lkX10_158 (by assumption) rfl rfl rfl (Nat.le_of_ble_eq_true rfl) ⟨by decide, by decide⟩ (by decide) ?_
      refine c_X10_planOf hW hV hM hL (by omega) (by omega) (hs32 a (by omega) (by omega)) (hs32 b (by omega) (by omega)) hcut hX (fun S' r1 r2 => ?_)
      rw [← hbst]
      exact hgo (by omega) (by omega) (by omega) S' r1 r2
  · show G _ _ _ _ _ _ _ _ _ _ _ _ _
    refine G_if_eq_t (pc := 4) 16 dX10_planned_4 rfl (by decide) (by decide) ?_
    refine G_bipush (pc := 16) dX10_planned_16 rfl ?_
    refine G_iret (pc := 18) dX10_planned_18 rfl (by decide) ?_
    exact h0 (by omega)
