/-! Row: wipe, copy, isLike -/
set_option maxRecDepth 100000 in
set_option maxHeartbeats 4000000 in
theorem l_X4_wipe {g : GC} {sh : SH} {S : SS} {n a N : Nat} {xs : Int → Int} {Q : Option Value → GA → Nat → Prop} (h1 : sh a = some (.inl 4)) (h2 : sh (a + 1) = some (.inr (1, N))) (h3 : S.2.2 a 0 = some (a + 1)) (hN : (N : Int) ≤ 64) (hS : Sup xs N)
    (hq : Q none (hp g sh (rput S a pz N)) n) : ∀ (m : Nat) (i : Int), i + m = N → 0 ≤ i → G g mX4_wipe 1 0 0 2 [(1, .int (iI i)), (0, gr g a)] [] (hp g sh (putA S (a + 1) (mix pz xs i))) n 0 0 Q := by
  intro m
  induction m with
  | zero =>
    intro i hi h0
    refine G_iload_n (pc := 2) dX4_wipe_2 rfl ?_
    refine S_aload_n (pc := 3) dX4_wipe_3 rfl ?_
    refine S_getR (pc := 4) dX4_wipe_4 fX4_13 (by assumption) rfl (by assumption) ?_
    refine S_alen (pc := 7) dX4_wipe_7 (Or.inl (by assumption)) ?_
    refine G_icmp_ge_t (pc := 8) 24 dX4_wipe_8 rfl (by omega) (by omega) ?_
    refine S_aload_n (pc := 24) dX4_wipe_24 rfl ?_
    refine G_iconst (pc := 25) dX4_wipe_25 ?_
    refine S_putI (pc := 26) dX4_wipe_26 fX4_19 (by assumption) rfl ⟨rfl, rfl⟩ ?_
    refine G_vret (pc := 29) dX4_wipe_29 rfl (by decide) ?_
    refine Q_S ?_ hq
    rw [show i = (N : Int) by omega, mix_N hS]
    unfold rput
    rw [plen_pz]
    congr 2
    funext j
    unfold clip pz
    exact ite_self _
  | succ m ih =>
    intro i hi h0
    refine G_iload_n (pc := 2) dX4_wipe_2 rfl ?_
    refine S_aload_n (pc := 3) dX4_wipe_3 rfl ?_
    refine S_getR (pc := 4) dX4_wipe_4 fX4_13 (by assumption) rfl (by assumption) ?_
    refine S_alen (pc := 7) dX4_wipe_7 (Or.inl (by assumption)) ?_
    refine G_icmp_ge_f (pc := 8) 24 dX4_wipe_8 rfl (by omega) (by omega) ?_
    refine S_aload_n (pc := 11) dX4_wipe_11 rfl ?_
    refine S_getR (pc := 12) dX4_wipe_12 fX4_13 (by assumption) rfl (by assumption) ?_
    refine G_iload_n (pc := 15) dX4_wipe_15 rfl ?_
    refine G_iconst (pc := 16) dX4_wipe_16 ?_
    refine S_iast (pc := 17) dX4_wipe_17 (by assumption) (by omega) ?_
    refine G_iinc (pc := 18) (ls' := [(1, _), (0, _)]) dX4_wipe_18 rfl (by decide) rfl ?_
    refine G_goto (pc := 21) 2 dX4_wipe_21 rfl ?_
    rw [setA_putA, show iup (mix pz xs i) i 0 = mix pz xs (i + 1) from mix_S h0]
    exact ih (i + 1) (by omega) (by omega)
set_option maxRecDepth 100000 in
set_option maxHeartbeats 4000000 in
theorem c_X4_wipe {g : GC} {p : Int} {sh : SH} {S : SS} {n a N : Nat} {Q : Option Value → GA → Nat → Prop} (hr : Row p sh S a N) (hq : Q none (hp g sh (rput S a pz N)) n) : GCall g mX4_wipe 1 0 0 [gr g a] (hp g sh S) n Q := by
  obtain ⟨⟨h1, h2, h3⟩, hN, hL, hS, hR⟩ := hr
  refine GCall.of (by decide) (Nat.le_of_ble_eq_true rfl) (ls := [(0, _)]) rfl ?_
  refine G_iconst (pc := 0) dX4_wipe_0 ?_
  refine G_istore_n (pc := 1) (ls' := [(1, _), (0, _)]) dX4_wipe_1 (by decide) rfl ?_
  have := l_X4_wipe (S := S) (xs := rv S a) h1 h2 h3 hN hS hq N 0 (by omega) (by omega)
  rwa [mix_0, show putA S (a + 1) (rv S a) = S from putA_same] at this
set_option maxRecDepth 100000 in
set_option maxHeartbeats 4000000 in
theorem l_X4_copy {g : GC} {p : Int} {sh : SH} {S : SS} {n a b N M : Nat} {Q : Option Value → GA → Nat → Prop} (hr : Row p sh S a N) (hb : Row p sh S b M) (hab : b ≠ a) (hp7 : 0 < p ∧ p ≤ 7681)
    (hq : Q none (hp g sh (rput S a (clip N (rv S b)) N)) n) : ∀ (m : Nat) (i : Int), i + m = N → 0 ≤ i → G g mX4_copy 3 0 0 2 [(2, .int (iI i)), (0, gr g a), (1, gr g b)] [] (hp g sh (rput S a (mix (rv S b) (rv S a) i) N)) n 0 0 Q := by
  intro m
  have hr0 := hr
  obtain ⟨⟨h1, h2, h3⟩, hN, hL, hS, hR⟩ := hr
  have hb1 := hb.1.1
  induction m with
  | zero =>
    intro i hi h0
    refine G_iload_n (pc := 2) dX4_copy_2 rfl ?_
    refine S_aload_n (pc := 3) dX4_copy_3 rfl ?_
    refine S_getR (pc := 4) dX4_copy_4 fX4_13 (by assumption) rfl (by assumption) ?_
    refine S_alen (pc := 7) dX4_copy_7 (Or.inl (by assumption)) ?_
    refine G_icmp_ge_t (pc := 8) 27 dX4_copy_8 rfl (by omega) (by omega) ?_
    refine G_vret (pc := 27) dX4_copy_27 rfl (by decide) ?_
    refine Q_S ?_ hq
    rw [show i = (N : Int) by omega, mix_N hS]
  | succ m ih =>
    intro i hi h0
    have hr1 : Row p sh (rput S a (mix (rv S b) (rv S a) i) N) a N := Row_put hr0 (mix_sup hS (by omega)) (mix_red hb.2.2.2.2 hR)
    have hb2 : Row p sh (rput S a (mix (rv S b) (rv S a) i) N) b M := Row_ne hb hab
    have e1 : rv (rput S a (mix (rv S b) (rv S a) i) N) b = rv S b := rput_ne hab
    have hx := hb.2.2.2.2 i
    refine G_iload_n (pc := 2) dX4_copy_2 rfl ?_
    refine S_aload_n (pc := 3) dX4_copy_3 rfl ?_
    refine S_getR (pc := 4) dX4_copy_4 fX4_13 (by assumption) rfl (by assumption) ?_
    refine S_alen (pc := 7) dX4_copy_7 (Or.inl (by assumption)) ?_
    refine G_icmp_ge_f (pc := 8) 27 dX4_copy_8 rfl (by omega) (by omega) ?_
    refine S_aload_n (pc := 11) dX4_copy_11 rfl ?_
    refine G_iload_n (pc := 12) dX4_copy_12 rfl ?_
    refine S_aload_n (pc := 13) dX4_copy_13 rfl ?_
    refine G_iload_n (pc := 14) dX4_copy_14 rfl ?_
    refine S_callV (pc := 15) (ci := 4) (d2 := 1) (mc2 := 0) (ms2 := 0) (As := [_]) dX4_copy_15 kX4_get lkX4_23 (by assumption) rfl rfl rfl (Nat.le_of_ble_eq_true rfl) ⟨by decide, by decide⟩ (by decide) ?_
    refine c_X4_get hb2 (by omega) ?_
    show G _ _ _ _ _ _ _ _ _ _ _ _ _
    refine S_callV (pc := 18) (ci := 4) (d2 := 1) (mc2 := 0) (ms2 := 0) (As := [_, _]) dX4_copy_18 kX4_set lkX4_27 (by assumption) rfl rfl rfl (Nat.le_of_ble_eq_true rfl) ⟨by decide, by decide⟩ (by decide) ?_
    refine c_X4_set hr1 hp7.2 (by omega) (by rw [e1]; exact hx) ?_
    show G _ _ _ _ _ _ _ _ _ _ _ _ _
    refine G_iinc (pc := 21) (ls' := [(2, _), (0, _), (1, _)]) dX4_copy_21 rfl (by decide) rfl ?_
    refine G_goto (pc := 24) 2 dX4_copy_24 rfl ?_
    rw [rput_rput, rput_rv, e1, mix_S h0]
    exact ih (i + 1) (by omega) (by omega)
set_option maxRecDepth 100000 in
set_option maxHeartbeats 4000000 in
theorem c_X4_copy {g : GC} {p : Int} {sh : SH} {S : SS} {n a b N M : Nat} {Q : Option Value → GA → Nat → Prop} (hr : Row p sh S a N) (hb : Row p sh S b M) (hab : b ≠ a) (hp7 : 0 < p ∧ p ≤ 7681)
    (hq : Q none (hp g sh (rput S a (clip N (rv S b)) N)) n) : GCall g mX4_copy 3 0 0 [gr g a, gr g b] (hp g sh S) n Q := by
  refine GCall.of (by decide) (Nat.le_of_ble_eq_true rfl) (ls := [(0, _), (1, _)]) rfl ?_
  refine G_iconst (pc := 0) dX4_copy_0 ?_
  refine G_istore_n (pc := 1) (ls' := [(2, _), (0, _), (1, _)]) dX4_copy_1 (by decide) rfl ?_
  have := l_X4_copy hr hb hab hp7 hq N 0 (by omega) (by omega)
  rwa [mix_0, Row_self hr] at this
set_option maxRecDepth 100000 in
set_option maxHeartbeats 4000000 in
theorem l_X4_isLike {g : GC} {p : Int} {sh : SH} {S : SS} {n a b N M : Nat} {Q : Option Value → GA → Nat → Prop} (hr : Row p sh S a N) (hb : Row p sh S b M) (hp7 : 0 < p ∧ p ≤ 7681) (hLL : S.1 a 1 = S.1 b 1)
    (h1 : rv S a = rv S b → Q (some (.int (iI 1))) (hp g sh S) n) (h0 : rv S a ≠ rv S b → Q (some (.int (iI 0))) (hp g sh S) n) : ∀ (m : Nat) (i : Int), i + m = S.1 a 1 → 0 ≤ i → (∀ j : Int, 0 ≤ j → j < i → rv S a j = rv S b j) → G g mX4_isLike 2 0 0 15 [(2, .int (iI i)), (0, gr g a), (1, gr g b)] [] (hp g sh S) n 0 0 Q := by
  intro m
  have ha1 := hr.1.1
  have hb1 := hb.1.1
  have hlb := plen_bd (rv S a) N
  have hla := hr.2.2.1
  have hlb' := hb.2.2.1
  have hN := hr.2.1
  induction m with
  | zero =>
    intro i hi h0i hall
    refine G_iload_n (pc := 15) dX4_isLike_15 rfl ?_
    refine S_aload_n (pc := 16) dX4_isLike_16 rfl ?_
    refine S_getI (pc := 17) dX4_isLike_17 fX4_19 (by assumption) rfl ?_
    refine G_icmp_ge_t (pc := 20) 44 dX4_isLike_20 rfl (by omega) (by omega) ?_
    refine G_iconst (pc := 44) dX4_isLike_44 ?_
    refine G_zret (pc := 45) dX4_isLike_45 rfl nar_z1 (by decide) ?_
    refine h1 (funext fun j => ?_)
    by_cases hj : 0 ≤ j ∧ j < i
    · exact hall j hj.1 hj.2
    · by_cases hj0 : j < 0
      · rw [hr.2.2.2.1 j (by omega), hb.2.2.2.1 j (by omega)]
      · rw [Sup_len hr.2.2.2.1 (by omega), Sup_len hb.2.2.2.1 (by omega)]
  | succ m ih =>
    intro i hi h0i hall
    have hx := hr.2.2.2.2 i
    have hy := hb.2.2.2.2 i
    refine G_iload_n (pc := 15) dX4_isLike_15 rfl ?_
    refine S_aload_n (pc := 16) dX4_isLike_16 rfl ?_
    refine S_getI (pc := 17) dX4_isLike_17 fX4_19 (by assumption) rfl ?_
    refine G_icmp_ge_f (pc := 20) 44 dX4_isLike_20 rfl (by omega) (by omega) ?_
    refine S_aload_n (pc := 23) dX4_isLike_23 rfl ?_
    refine G_iload_n (pc := 24) dX4_isLike_24 rfl ?_
    refine S_callV (pc := 25) (ci := 4) (d2 := 1) (mc2 := 0) (ms2 := 0) (As := [_]) dX4_isLike_25 kX4_get lkX4_23 (by assumption) rfl rfl rfl (Nat.le_of_ble_eq_true rfl) ⟨by decide, by decide⟩ (by decide) ?_
    refine c_X4_get hr (by omega) ?_
    show G _ _ _ _ _ _ _ _ _ _ _ _ _
    refine S_aload_n (pc := 28) dX4_isLike_28 rfl ?_
    refine G_iload_n (pc := 29) dX4_isLike_29 rfl ?_
    refine S_callV (pc := 30) (ci := 4) (d2 := 1) (mc2 := 0) (ms2 := 0) (As := [_]) dX4_isLike_30 kX4_get lkX4_23 (by assumption) rfl rfl rfl (Nat.le_of_ble_eq_true rfl) ⟨by decide, by decide⟩ (by decide) ?_
    refine c_X4_get hb (by omega) ?_
    show G _ _ _ _ _ _ _ _ _ _ _ _ _
    refine G_icmp_eq (pc := 33) 38 dX4_isLike_33 rfl (by omega) (fun c33 => ?_) (fun c33 => ?_)
    · skip
      refine G_iinc (pc := 38) (ls' := [(2, _), (0, _), (1, _)]) dX4_isLike_38 rfl (by decide) rfl ?_
      refine G_goto (pc := 41) 15 dX4_isLike_41 rfl ?_
      refine ih (i + 1) (by omega) (by omega) (fun j hj1 hj2 => ?_)
      by_cases hj : j = i
      · rw [hj]; exact c33
      · exact hall j hj1 (by omega)
    · skip
      refine G_iconst (pc := 36) dX4_isLike_36 ?_
      refine G_zret (pc := 37) dX4_isLike_37 rfl nar_z0 (by decide) ?_
      exact h0 (fun e => c33 (congrFun e i))
set_option maxRecDepth 100000 in
set_option maxHeartbeats 4000000 in
theorem c_X4_isLike {g : GC} {p : Int} {sh : SH} {S : SS} {n a b N M : Nat} {Q : Option Value → GA → Nat → Prop} (hr : Row p sh S a N) (hb : Row p sh S b M) (hp7 : 0 < p ∧ p ≤ 7681)
    (h1 : rv S a = rv S b → N = M → Q (some (.int (iI 1))) (hp g sh S) n) (h0 : rv S a ≠ rv S b → Q (some (.int (iI 0))) (hp g sh S) n) (hNM : N = M) : GCall g mX4_isLike 2 0 0 [gr g a, gr g b] (hp g sh S) n Q := by
  have ha1 := hr.1.1
  have hb1 := hb.1.1
  have hlb := plen_bd (rv S a) N
  have hlc := plen_bd (rv S b) M
  have hla := hr.2.2.1
  have hlb' := hb.2.2.1
  have hN := hr.2.1
  have hM := hb.2.1
  refine GCall.of (by decide) (Nat.le_of_ble_eq_true rfl) (ls := [(0, _), (1, _)]) rfl ?_
  refine S_aload_n (pc := 0) dX4_isLike_0 rfl ?_
  refine S_getI (pc := 1) dX4_isLike_1 fX4_19 (by assumption) rfl ?_
  refine S_aload_n (pc := 4) dX4_isLike_4 rfl ?_
  refine S_callV (pc := 5) (ci := 4) (d2 := 1) (mc2 := 0) (ms2 := 0) (As := []) dX4_isLike_5 kX4_length lkX4_31 (by assumption) rfl rfl rfl (Nat.le_of_ble_eq_true rfl) ⟨by decide, by decide⟩ (by decide) ?_
  refine c_X4_length hb.1 ?_
  show G _ _ _ _ _ _ _ _ _ _ _ _ _
  refine G_icmp_eq (pc := 8) 13 dX4_isLike_8 rfl (by omega) (fun c8 => ?_) (fun c8 => ?_)
  · skip
    refine G_iconst (pc := 13) dX4_isLike_13 ?_
    refine G_istore_n (pc := 14) (ls' := [(2, _), (0, _), (1, _)]) dX4_isLike_14 (by decide) rfl ?_
    exact l_X4_isLike hr hb hp7 (by omega) (fun e => h1 e hNM) h0 (S.1 a 1).toNat 0 (by omega) (by omega) (fun j hj1 hj2 => by omega)
  · skip
    refine G_iconst (pc := 11) dX4_isLike_11 ?_
    refine G_zret (pc := 12) dX4_isLike_12 rfl nar_z0 (by decide) ?_
    refine h0 (fun e => ?_)
    rw [hla, hlb', e, hNM] at c8
    exact absurd rfl c8
