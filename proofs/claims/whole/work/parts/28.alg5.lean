/-! Algebra: partMoved, moved -/
/-- a pass of moving: from the last but one downwards, k numbers of them -/
def mvin (p b L : Int) (xs : Int → Int) : Nat → Int → Int
  | 0 => xs
  | t + 1 => iup (mvin p b L xs t) (L - 2 - t) ((mvin p b L xs t (L - 2 - t) + b * mvin p b L xs t (L - 1 - t)) % p)
/-- passes of moving -/
def mvout (p b L : Int) (xs : Int → Int) : Nat → Int → Int
  | 0 => xs
  | i + 1 => mvin p b L (mvout p b L xs i) (L - 1 - i).toNat
theorem mvin_red {p b L : Int} {xs : Int → Int} (hp : 0 < p) (h : Red p xs) : ∀ t : Nat, Red p (mvin p b L xs t)
  | 0 => h
  | t + 1 => Red_iup (mvin_red hp h t) (em_bd hp)
theorem mvin_sup {p b L : Int} {xs : Int → Int} {N : Nat} (h : Sup xs N) (hL : L ≤ N) : ∀ t : Nat, t ≤ L - 1 → Sup (mvin p b L xs t) N
  | 0, _ => h
  | t + 1, ht => Sup_iup (mvin_sup h hL t (by omega)) (by omega)
theorem mvout_red {p b L : Int} {xs : Int → Int} (hp : 0 < p) (h : Red p xs) : ∀ t : Nat, Red p (mvout p b L xs t)
  | 0 => h
  | t + 1 => mvin_red hp (mvout_red hp h t) _
theorem mvout_sup {p b L : Int} {xs : Int → Int} {N : Nat} (h : Sup xs N) (hL : L ≤ N) : ∀ t : Nat, t ≤ L - 1 → Sup (mvout p b L xs t) N
  | 0, _ => h
  | t + 1, ht => mvin_sup (mvout_sup h hL t (by omega)) hL _ (by omega)
set_option maxRecDepth 100000 in
set_option maxHeartbeats 4000000 in
theorem l_X0_partMovedI {g : GC} {p : Int} {sh : SH} {S : SS} {n a : Nat} {b w L i : Int} {ys : Int → Int} {Q : Option Value → GA → Nat → Prop} (hA : Alg p sh S) (ha1 : sh a = some (.inl 4)) (hb : 0 ≤ b ∧ b < p) (hL : 1 ≤ L ∧ L ≤ 64) (hi : 0 ≤ i ∧ i ≤ L - 1) (hys : Sup ys 64) (hyr : Red p ys)
    (K : G g mX0_partMoved 4 0 0 91 [(4, .int (iI i)), (0, gr g 13), (1, gr g a), (2, .int (iI b)), (3, .int (iI w))] [] (hp g sh (rput S 18 (mvin p b L ys (L - 1 - i).toNat) 64)) n 0 0 Q) : ∀ (m t : Nat), t + m = (L - 1 - i).toNat → G g mX0_partMoved 4 0 0 36 [(5, .int (iI (L - 2 - t))), (4, .int (iI i)), (0, gr g 13), (1, gr g a), (2, .int (iI b)), (3, .int (iI w))] [] (hp g sh (rput S 18 (mvin p b L ys t) 64)) n 0 0 Q := by
  intro m
  have hA' := hA
  obtain ⟨hP, hrs, h13, p0, -, -, p18, -, -, -, r18, -⟩ := hA'
  have hpb := hP.bd
  have hrs1 := hrs.1
  have h181 := r18.1.1
  induction m with
  | zero =>
    intro t ht
    refine G_iload (pc := 36) dX0_partMoved_36 rfl ?_
    refine G_iload (pc := 38) dX0_partMoved_38 rfl ?_
    refine G_icmp_lt_t (pc := 40) 91 dX0_partMoved_40 rfl (by omega) (by omega) ?_
    refine G_ls (ls' := [(4, _), (0, _), (1, _), (2, _), (3, _)]) (lsub_c rfl (lsub_c rfl (lsub_c rfl (lsub_c rfl (lsub_c rfl lsub_n))))) ?_
    rw [← ht] at K
    exact K
  | succ m ih =>
    intro t ht
    have hs := mvin_sup (p := p) (b := b) hys hL.2 t (by omega)
    have hr := mvin_red (b := b) (L := L) (p := p) (by omega) hyr t
    have hrow : Row p sh (rput S 18 (mvin p b L ys t) 64) 18 64 := Row_put r18 hs hr
    have hx := hr (L - 2 - t)
    have hy := hr (L - 2 - t + 1)
    have hm := mul_bd hb hy hpb.2
    refine G_iload (pc := 36) dX0_partMoved_36 rfl ?_
    refine G_iload (pc := 38) dX0_partMoved_38 rfl ?_
    refine G_icmp_lt_f (pc := 40) 91 dX0_partMoved_40 rfl (by omega) (by omega) ?_
    refine S_aload_n (pc := 43) dX0_partMoved_43 rfl ?_
    refine S_getR (pc := 44) dX0_partMoved_44 fX0_23 (by assumption) rfl (by assumption) ?_
    refine G_iload (pc := 47) dX0_partMoved_47 rfl ?_
    refine S_aload_n (pc := 49) dX0_partMoved_49 rfl ?_
    refine S_getR (pc := 50) dX0_partMoved_50 fX0_41 (by assumption) rfl (by assumption) ?_
    refine S_aload_n (pc := 53) dX0_partMoved_53 rfl ?_
    refine S_getR (pc := 54) dX0_partMoved_54 fX0_23 (by assumption) rfl (by assumption) ?_
    refine G_iload (pc := 57) dX0_partMoved_57 rfl ?_
    refine S_callV (pc := 59) (ci := 4) (d2 := 1) (mc2 := 0) (ms2 := 0) (As := [_]) dX0_partMoved_59 kX4_get lkX0_49 (by assumption) rfl rfl rfl (Nat.le_of_ble_eq_true rfl) ⟨by decide, by decide⟩ (by decide) ?_
    refine c_X4_get hrow (by omega) ?_
    rw [rput_rv]
    show G _ _ _ _ _ _ _ _ _ _ _ _ _
    refine G_i2l (pc := 62) dX0_partMoved_62 (by omega) ?_
    refine G_iload_n (pc := 63) dX0_partMoved_63 rfl ?_
    refine G_i2l (pc := 64) dX0_partMoved_64 (by omega) ?_
    refine S_aload_n (pc := 65) dX0_partMoved_65 rfl ?_
    refine S_getR (pc := 66) dX0_partMoved_66 fX0_23 (by assumption) rfl (by assumption) ?_
    refine G_iload (pc := 69) dX0_partMoved_69 rfl ?_
    refine G_iconst (pc := 71) dX0_partMoved_71 ?_
    refine G_iadd (pc := 72) dX0_partMoved_72 ?_
    refine S_callV (pc := 73) (ci := 4) (d2 := 1) (mc2 := 0) (ms2 := 0) (As := [_]) dX0_partMoved_73 kX4_get lkX0_49 (by assumption) rfl rfl rfl (Nat.le_of_ble_eq_true rfl) ⟨by decide, by decide⟩ (by decide) ?_
    refine c_X4_get hrow (by omega) ?_
    rw [rput_rv]
    show G _ _ _ _ _ _ _ _ _ _ _ _ _
    refine G_i2l (pc := 76) dX0_partMoved_76 (by omega) ?_
    refine G_lmul (pc := 77) dX0_partMoved_77 ?_
    refine G_ladd (pc := 78) dX0_partMoved_78 ?_
    refine S_callV (pc := 79) (ci := 3) (d2 := 1) (mc2 := 0) (ms2 := 0) (As := [_]) dX0_partMoved_79 kX3_rest lkX0_53 (by assumption) rfl rfl rfl (Nat.le_of_ble_eq_true rfl) ⟨by decide, by decide⟩ (by decide) ?_
    refine c_X3_rest (IsRests_put hrs) hP (by omega) ?_
    show G _ _ _ _ _ _ _ _ _ _ _ _ _
    refine S_callV (pc := 82) (ci := 4) (d2 := 1) (mc2 := 0) (ms2 := 0) (As := [_, _]) dX0_partMoved_82 kX4_set lkX0_59 (by assumption) rfl rfl rfl (Nat.le_of_ble_eq_true rfl) ⟨by decide, by decide⟩ (by decide) ?_
    refine c_X4_set hrow hpb.2 (by omega) (em_bd (by omega)) ?_
    rw [rput_rput, rput_rv]
    show G _ _ _ _ _ _ _ _ _ _ _ _ _
    refine G_iinc (pc := 85) (ls' := [(5, _), (4, _), (0, _), (1, _), (2, _), (3, _)]) dX0_partMoved_85 rfl (by decide) rfl ?_
    refine G_goto (pc := 88) 36 dX0_partMoved_88 rfl ?_
    have e : iup (mvin p b L ys t) (L - 2 - t) ((mvin p b L ys t (L - 2 - t) + b * mvin p b L ys t (L - 2 - t + 1)) % p) = mvin p b L ys (t + 1) := by
      rw [show L - 2 - (t : Int) + 1 = L - 1 - t by omega]; rfl
    rw [e]
    have := ih (t + 1) (by omega)
    rw [show L - 2 - ((t + 1 : Nat) : Int) = L - 2 - t + -1 by omega] at this
    exact this
set_option maxRecDepth 100000 in
set_option maxHeartbeats 4000000 in
theorem l_X0_partMoved {g : GC} {p : Int} {sh : SH} {S : SS} {n a N : Nat} {b w : Int} {Q : Option Value → GA → Nat → Prop} (hA : Alg p sh S) (ha : Row p sh S a N) (ha18 : a ≠ 18) (hb : 0 ≤ b ∧ b < p) (hw : -1000 ≤ w ∧ w ≤ 1000)
    (hq : ∀ e : Nat, (e : Int) = (if w < S.1 a 1 - 1 then (if w < 0 then 0 else w) else (if S.1 a 1 - 1 < 0 then 0 else S.1 a 1 - 1)) → Q (some (gr g 18)) (hp g sh (rput S 18 (mvout p b (S.1 a 1) (rv S a) e) 64)) n) : ∀ (m i : Nat), S.1 a 1 - 1 - i ≤ m → (i = 0 ∨ (i ≤ S.1 a 1 - 1 ∧ i ≤ w)) → G g mX0_partMoved 4 0 0 11 [(4, .int (iI i)), (0, gr g 13), (1, gr g a), (2, .int (iI b)), (3, .int (iI w))] [] (hp g sh (rput S 18 (mvout p b (S.1 a 1) (rv S a) i) 64)) n 0 0 Q := by
  intro m
  have hA' := hA
  obtain ⟨hP, hrs, h13, p0, -, -, p18, -, -, -, r18, -⟩ := hA'
  have hpb := hP.bd
  have ha0 := ha.1
  have ha1 := ha.1.1
  have h181 := r18.1.1
  have hla := plen_bd (rv S a) N
  have hN := ha.2.1
  have hLa := ha.2.2.1
  have eF : ∀ xs : Int → Int, (rput S 18 xs 64).1 a 1 = S.1 a 1 := fun xs => rput_F (Or.inl ha18)
  have hfin : ∀ i : Nat, (i = 0 ∨ (i ≤ S.1 a 1 - 1 ∧ i ≤ w)) → (w ≤ i ∨ S.1 a 1 - 1 ≤ i) → (i : Int) = (if w < S.1 a 1 - 1 then (if w < 0 then 0 else w) else (if S.1 a 1 - 1 < 0 then 0 else S.1 a 1 - 1)) := fun i h1 h2 => by
    by_cases c1 : w < S.1 a 1 - 1
    · rw [if_pos c1]
      by_cases c2 : w < 0
      · rw [if_pos c2]; omega
      · rw [if_neg c2]; omega
    · rw [if_neg c1]
      by_cases c2 : S.1 a 1 - 1 < 0
      · rw [if_pos c2]; omega
      · rw [if_neg c2]; omega
  have hsup : ∀ i : Nat, (i = 0 ∨ (i ≤ S.1 a 1 - 1 ∧ i ≤ w)) → Sup (mvout p b (S.1 a 1) (rv S a) i) 64 := fun i h1 => by
    have h64 : Sup (rv S a) 64 := fun j hj => ha.2.2.2.1 j (by omega)
    rcases h1 with h1 | h1
    · rw [h1]; exact h64
    · exact mvout_sup h64 (by omega) i (by omega)
  induction m with
  | zero =>
    intro i hm hi
    refine G_iload (pc := 11) dX0_partMoved_11 rfl ?_
    refine G_iload_n (pc := 13) dX0_partMoved_13 rfl ?_
    refine G_icmp_ge (pc := 14) 97 dX0_partMoved_14 rfl (by omega) (fun c14 => ?_) (fun c14 => ?_)
    · skip
      refine S_aload_n (pc := 97) dX0_partMoved_97 rfl ?_
      refine S_getR (pc := 98) dX0_partMoved_98 fX0_23 (by assumption) rfl (by assumption) ?_
      refine G_aret (pc := 101) dX0_partMoved_101 rfl (by decide) ?_
      exact hq i (hfin i hi (by omega))
    · skip
      refine G_iload (pc := 17) dX0_partMoved_17 rfl ?_
      refine S_aload_n (pc := 19) dX0_partMoved_19 rfl ?_
      refine S_callV (pc := 20) (ci := 4) (d2 := 1) (mc2 := 0) (ms2 := 0) (As := []) dX0_partMoved_20 kX4_length lkX0_45 (by assumption) rfl rfl rfl (Nat.le_of_ble_eq_true rfl) ⟨by decide, by decide⟩ (by decide) ?_
      refine c_X4_length (by assumption) ?_
      show G _ _ _ _ _ _ _ _ _ _ _ _ _
      rw [eF]
      refine G_iconst (pc := 23) dX0_partMoved_23 ?_
      refine G_isub (pc := 24) dX0_partMoved_24 ?_
      refine G_icmp_ge_t (pc := 25) 97 dX0_partMoved_25 rfl (by omega) (by omega) ?_
      refine S_aload_n (pc := 97) dX0_partMoved_97 rfl ?_
      refine S_getR (pc := 98) dX0_partMoved_98 fX0_23 (by assumption) rfl (by assumption) ?_
      refine G_aret (pc := 101) dX0_partMoved_101 rfl (by decide) ?_
      exact hq i (hfin i hi (by omega))
  | succ m ih =>
    intro i hm hi
    by_cases hc : (i : Int) < w ∧ (i : Int) < S.1 a 1 - 1
    · have K : G g mX0_partMoved 4 0 0 91 [(4, .int (iI i)), (0, gr g 13), (1, gr g a), (2, .int (iI b)), (3, .int (iI w))] [] (hp g sh (rput S 18 (mvin p b (S.1 a 1) (mvout p b (S.1 a 1) (rv S a) i) (S.1 a 1 - 1 - i).toNat) 64)) n 0 0 Q := by
        refine G_iinc (pc := 91) (ls' := [(4, _), (0, _), (1, _), (2, _), (3, _)]) dX0_partMoved_91 rfl (by decide) rfl ?_
        refine G_goto (pc := 94) 11 dX0_partMoved_94 rfl ?_
        exact ih (i + 1) (by omega) (by omega)
      have hin := l_X0_partMovedI (S := S) (w := w) (i := (i : Int)) (L := S.1 a 1) (ys := mvout p b (S.1 a 1) (rv S a) i) (n := n) (Q := Q) hA ha1 hb (by omega) (by omega) (hsup i hi) (mvout_red (by omega) ha.2.2.2.2 i) K (S.1 a 1 - 1 - i).toNat 0 (by omega)
      rw [show S.1 a 1 - 2 - ((0 : Nat) : Int) = S.1 a 1 - 2 by omega] at hin
      refine G_iload (pc := 11) dX0_partMoved_11 rfl ?_
      refine G_iload_n (pc := 13) dX0_partMoved_13 rfl ?_
      refine G_icmp_ge_f (pc := 14) 97 dX0_partMoved_14 rfl (by omega) (by omega) ?_
      refine G_iload (pc := 17) dX0_partMoved_17 rfl ?_
      refine S_aload_n (pc := 19) dX0_partMoved_19 rfl ?_
      refine S_callV (pc := 20) (ci := 4) (d2 := 1) (mc2 := 0) (ms2 := 0) (As := []) dX0_partMoved_20 kX4_length lkX0_45 (by assumption) rfl rfl rfl (Nat.le_of_ble_eq_true rfl) ⟨by decide, by decide⟩ (by decide) ?_
      refine c_X4_length (by assumption) ?_
      show G _ _ _ _ _ _ _ _ _ _ _ _ _
      rw [eF]
      refine G_iconst (pc := 23) dX0_partMoved_23 ?_
      refine G_isub (pc := 24) dX0_partMoved_24 ?_
      refine G_icmp_ge_f (pc := 25) 97 dX0_partMoved_25 rfl (by omega) (by omega) ?_
      refine S_aload_n (pc := 28) dX0_partMoved_28 rfl ?_
      refine S_callV (pc := 29) (ci := 4) (d2 := 1) (mc2 := 0) (ms2 := 0) (As := []) dX0_partMoved_29 kX4_length lkX0_45 (by assumption) rfl rfl rfl (Nat.le_of_ble_eq_true rfl) ⟨by decide, by decide⟩ (by decide) ?_
      refine c_X4_length (by assumption) ?_
      show G _ _ _ _ _ _ _ _ _ _ _ _ _
      rw [eF]
      refine G_iconst (pc := 32) dX0_partMoved_32 ?_
      refine G_isub (pc := 33) dX0_partMoved_33 ?_
      refine G_istore (pc := 34) (ls' := [(5, _), (4, _), (0, _), (1, _), (2, _), (3, _)]) dX0_partMoved_34 (by decide) rfl ?_
      exact hin
    · skip
      refine G_iload (pc := 11) dX0_partMoved_11 rfl ?_
      refine G_iload_n (pc := 13) dX0_partMoved_13 rfl ?_
      refine G_icmp_ge (pc := 14) 97 dX0_partMoved_14 rfl (by omega) (fun c14 => ?_) (fun c14 => ?_)
      · skip
        refine S_aload_n (pc := 97) dX0_partMoved_97 rfl ?_
        refine S_getR (pc := 98) dX0_partMoved_98 fX0_23 (by assumption) rfl (by assumption) ?_
        refine G_aret (pc := 101) dX0_partMoved_101 rfl (by decide) ?_
        exact hq i (hfin i hi (by omega))
      · skip
        refine G_iload (pc := 17) dX0_partMoved_17 rfl ?_
        refine S_aload_n (pc := 19) dX0_partMoved_19 rfl ?_
        refine S_callV (pc := 20) (ci := 4) (d2 := 1) (mc2 := 0) (ms2 := 0) (As := []) dX0_partMoved_20 kX4_length lkX0_45 (by assumption) rfl rfl rfl (Nat.le_of_ble_eq_true rfl) ⟨by decide, by decide⟩ (by decide) ?_
        refine c_X4_length (by assumption) ?_
        show G _ _ _ _ _ _ _ _ _ _ _ _ _
        rw [eF]
        refine G_iconst (pc := 23) dX0_partMoved_23 ?_
        refine G_isub (pc := 24) dX0_partMoved_24 ?_
        refine G_icmp_ge (pc := 25) 97 dX0_partMoved_25 rfl (by omega) (fun c25 => ?_) (fun c25 => ?_)
        · skip
          refine S_aload_n (pc := 97) dX0_partMoved_97 rfl ?_
          refine S_getR (pc := 98) dX0_partMoved_98 fX0_23 (by assumption) rfl (by assumption) ?_
          refine G_aret (pc := 101) dX0_partMoved_101 rfl (by decide) ?_
          exact hq i (hfin i hi (by omega))
        · skip
          exact absurd (by omega) hc
set_option maxRecDepth 100000 in
set_option maxHeartbeats 4000000 in
theorem c_X0_partMoved {g : GC} {p : Int} {sh : SH} {S : SS} {n a N : Nat} {b w : Int} {Q : Option Value → GA → Nat → Prop} (hA : Alg p sh S) (ha : Row p sh S a N) (ha18 : a ≠ 18) (hb : 0 ≤ b ∧ b < p) (hw : -1000 ≤ w ∧ w ≤ 1000)
    (hq : ∀ e : Nat, (e : Int) = (if w < S.1 a 1 - 1 then (if w < 0 then 0 else w) else (if S.1 a 1 - 1 < 0 then 0 else S.1 a 1 - 1)) → Q (some (gr g 18)) (hp g sh (rput S 18 (mvout p b (S.1 a 1) (rv S a) e) 64)) n) : GCall g mX0_partMoved 4 0 0 [gr g 13, gr g a, .int (iI b), .int (iI w)] (hp g sh S) n Q := by
  have hA' := hA
  obtain ⟨hP, hrs, h13, p0, -, -, p18, -, -, -, r18, -⟩ := hA'
  have hpb := hP.bd
  have h181 := r18.1.1
  have hN := ha.2.1
  refine GCall.of (by decide) (Nat.le_of_ble_eq_true rfl) (ls := [(0, _), (1, _), (2, _), (3, _)]) rfl ?_
  refine S_aload_n (pc := 0) dX0_partMoved_0 rfl ?_
  refine S_getR (pc := 1) dX0_partMoved_1 fX0_23 (by assumption) rfl (by assumption) ?_
  refine S_aload_n (pc := 4) dX0_partMoved_4 rfl ?_
  refine S_callV (pc := 5) (ci := 4) (d2 := 3) (mc2 := 0) (ms2 := 0) (As := [_]) dX0_partMoved_5 kX4_copy lkX0_91 (by assumption) rfl rfl rfl (Nat.le_of_ble_eq_true rfl) ⟨by decide, by decide⟩ (by decide) ?_
  refine c_X4_copy r18 ha ha18 (by omega) ?_
  rw [clip_id (fun j hj => ha.2.2.2.1 j (by omega))]
  show G _ _ _ _ _ _ _ _ _ _ _ _ _
  refine G_iconst (pc := 8) dX0_partMoved_8 ?_
  refine G_istore (pc := 9) (ls' := [(4, _), (0, _), (1, _), (2, _), (3, _)]) dX0_partMoved_9 (by decide) rfl ?_
  exact l_X0_partMoved hA ha ha18 hb hw hq (S.1 a 1 - 1).toNat 0 (by omega) (Or.inl rfl)
/-- MOVED -/
def pmove (p b : Int) (xs : Int → Int) (N : Nat) : Int → Int := mvout p b (plen xs N) xs (plen xs N - 1).toNat
set_option maxRecDepth 100000 in
set_option maxHeartbeats 4000000 in
theorem c_X0_moved {g : GC} {p : Int} {sh : SH} {S : SS} {n a N : Nat} {b : Int} {Q : Option Value → GA → Nat → Prop} (hA : Alg p sh S) (ha : Row p sh S a N) (ha18 : a ≠ 18) (hb : 0 ≤ b ∧ b < p)
    (hq : Q (some (gr g 18)) (hp g sh (rput S 18 (pmove p b (rv S a) N) 64)) n) : GCall g mX0_moved 5 0 0 [gr g 13, gr g a, .int (iI b)] (hp g sh S) n Q := by
  have h13 := hA.2.2.1
  have ha0 := ha.1
  have ha1 := ha.1.1
  have hN := ha.2.1
  have hLa := ha.2.2.1
  have hla := plen_bd (rv S a) N
  refine GCall.of (by decide) (Nat.le_of_ble_eq_true rfl) (ls := [(0, _), (1, _), (2, _)]) rfl ?_
  refine S_aload_n (pc := 0) dX0_moved_0 rfl ?_
  refine S_aload_n (pc := 1) dX0_moved_1 rfl ?_
  refine G_iload_n (pc := 2) dX0_moved_2 rfl ?_
  refine S_aload_n (pc := 3) dX0_moved_3 rfl ?_
  refine S_callV (pc := 4) (ci := 4) (d2 := 1) (mc2 := 0) (ms2 := 0) (As := []) dX0_moved_4 kX4_length lkX0_45 (by assumption) rfl rfl rfl (Nat.le_of_ble_eq_true rfl) ⟨by decide, by decide⟩ (by decide) ?_
  refine c_X4_length ha0 ?_
  show G _ _ _ _ _ _ _ _ _ _ _ _ _
  refine S_callV (pc := 7) (ci := 0) (d2 := 4) (mc2 := 0) (ms2 := 0) (As := [_, _, _]) dX0_moved_7 kX0_partMoved lkX0_106 (by assumption) rfl rfl rfl (Nat.le_of_ble_eq_true rfl) ⟨by decide, by decide⟩ (by decide) ?_
  refine c_X0_partMoved hA ha ha18 hb (by omega) (fun e he => ?_)
  rw [if_neg (by omega)] at he
  show G _ _ _ _ _ _ _ _ _ _ _ _ _
  refine G_aret (pc := 10) dX0_moved_10 rfl (by decide) ?_
  rw [hLa, show e = (plen (rv S a) N - 1).toNat by
    by_cases c2 : S.1 a 1 - 1 < 0
    · rw [if_pos c2] at he; omega
    · rw [if_neg c2] at he; omega]
  exact hq
