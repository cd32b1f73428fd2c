/-! Algebra: multiplied, lineAt -/
theorem Alg_ne {p : Int} {sh : SH} {S : SS} {a N : Nat} {xs : Int → Int} (h : Alg p sh S) (h14 : a ≠ 14) (h16 : a ≠ 16) (h18 : a ≠ 18) (h20 : a ≠ 20) : Alg p sh (rput S a xs N) := by
  obtain ⟨a1, a2, a3, a4, a5, a6, a7, a8, a9, a10, a11, a12⟩ := h
  exact ⟨a1, IsRests_put a2, a3, a4, a5, a6, a7, a8, Row_ne a9 (Ne.symm h14), Row_ne a10 (Ne.symm h16), Row_ne a11 (Ne.symm h18), Row_ne a12 (Ne.symm h20)⟩
theorem Alg_14 {p : Int} {sh : SH} {S : SS} {xs : Int → Int} (h : Alg p sh S) (h1 : Sup xs 64) (h2 : Red p xs) : Alg p sh (rput S 14 xs 64) := by
  obtain ⟨a1, a2, a3, a4, a5, a6, a7, a8, a9, a10, a11, a12⟩ := h
  exact ⟨a1, IsRests_put a2, a3, a4, a5, a6, a7, a8, Row_put a9 h1 h2, Row_ne a10 (by decide), Row_ne a11 (by decide), Row_ne a12 (by decide)⟩
theorem Alg_16 {p : Int} {sh : SH} {S : SS} {xs : Int → Int} (h : Alg p sh S) (h1 : Sup xs 64) (h2 : Red p xs) : Alg p sh (rput S 16 xs 64) := by
  obtain ⟨a1, a2, a3, a4, a5, a6, a7, a8, a9, a10, a11, a12⟩ := h
  exact ⟨a1, IsRests_put a2, a3, a4, a5, a6, a7, a8, Row_ne a9 (by decide), Row_put a10 h1 h2, Row_ne a11 (by decide), Row_ne a12 (by decide)⟩
theorem Alg_18 {p : Int} {sh : SH} {S : SS} {xs : Int → Int} (h : Alg p sh S) (h1 : Sup xs 64) (h2 : Red p xs) : Alg p sh (rput S 18 xs 64) := by
  obtain ⟨a1, a2, a3, a4, a5, a6, a7, a8, a9, a10, a11, a12⟩ := h
  exact ⟨a1, IsRests_put a2, a3, a4, a5, a6, a7, a8, Row_ne a9 (by decide), Row_ne a10 (by decide), Row_put a11 h1 h2, Row_ne a12 (by decide)⟩
theorem Alg_20 {p : Int} {sh : SH} {S : SS} {xs : Int → Int} (h : Alg p sh S) (h1 : Sup xs 2) (h2 : Red p xs) : Alg p sh (rput S 20 xs 2) := by
  obtain ⟨a1, a2, a3, a4, a5, a6, a7, a8, a9, a10, a11, a12⟩ := h
  exact ⟨a1, IsRests_put a2, a3, a4, a5, a6, a7, a8, Row_ne a9 (by decide), Row_ne a10 (by decide), Row_ne a11 (by decide), Row_put a12 h1 h2⟩
set_option maxRecDepth 100000 in
set_option maxHeartbeats 4000000 in
theorem l_X0_multiplied {g : GC} {p : Int} {sh : SH} {S : SS} {n a N b M : Nat} {Q : Option Value → GA → Nat → Prop} (hA : Alg p sh S) (ha : Row p sh S a N) (hb : Row p sh S b M) (ha14 : a ≠ 14) (hb14 : b ≠ 14) (hl : S.1 a 1 + S.1 b 1 ≤ 65)
    (hq : Q (some (gr g 14)) (hp g sh (rput S 14 (pmul p (rv S a) (rv S b)) 64)) n) : ∀ (m : Nat) (i : Int), (S.1 a 1 + S.1 b 1 - 1 - i ≤ m) → 0 ≤ i → (i = 0 ∨ i ≤ S.1 a 1 + S.1 b 1 - 1) → G g mX0_multiplied 3 0 0 9 [(3, .int (iI i)), (0, gr g 13), (1, gr g a), (2, gr g b)] [] (hp g sh (rput S 14 (seg 0 i (pmul p (rv S a) (rv S b)) pz) 64)) n 0 0 Q := by
  intro m
  have hA' := hA
  obtain ⟨hP, hrs, h13, p0, p14, -, -, -, r14, -, -, -⟩ := hA'
  have hpb := hP.bd
  have ha0 := ha.1
  have hb0 := hb.1
  have ha1 := ha.1.1
  have hb1 := hb.1.1
  have h141 := r14.1.1
  have hrs1 := hrs.1
  have hla := plen_bd (rv S a) N
  have hlb := plen_bd (rv S b) M
  have hN := ha.2.1
  have hM := hb.2.1
  have hLa := ha.2.2.1
  have hLb := hb.2.2.1
  have hend : ∀ i : Int, 0 ≤ i → S.1 a 1 + S.1 b 1 - 1 ≤ i → seg 0 i (pmul p (rv S a) (rv S b)) pz = pmul p (rv S a) (rv S b) := fun i h0 h1 => seg_all (fun j hj => by
    show _ = (0 : Int)
    exact pmul_out (la := S.1 a 1) (lb := S.1 b 1) (fun j h => Sup_len ha.2.2.2.1 (by omega)) (fun j h => Sup_len hb.2.2.2.1 (by omega)) (by omega))
  have hrow : ∀ i : Int, 0 ≤ i → (i = 0 ∨ i ≤ S.1 a 1 + S.1 b 1 - 1) → Row p sh (rput S 14 (seg 0 i (pmul p (rv S a) (rv S b)) pz) 64) 14 64 := fun i h0 h1 => Row_put r14 (seg_sup Sup_pz (by omega) (by omega)) (seg_red (pmul_red (by omega)) (Red_pz (by omega)))
  have hFa : ∀ xs : Int → Int, (rput S 14 xs 64).1 a 1 = S.1 a 1 := fun xs => rput_F (Or.inl ha14)
  have hFb : ∀ xs : Int → Int, (rput S 14 xs 64).1 b 1 = S.1 b 1 := fun xs => rput_F (Or.inl hb14)
  have hva : ∀ xs : Int → Int, rv (rput S 14 xs 64) a = rv S a := fun xs => rput_ne ha14
  have hvb : ∀ xs : Int → Int, rv (rput S 14 xs 64) b = rv S b := fun xs => rput_ne hb14
  induction m with
  | zero =>
    intro i hm h0 h1
    refine G_iload_n (pc := 9) dX0_multiplied_9 rfl ?_
    refine S_aload_n (pc := 10) dX0_multiplied_10 rfl ?_
    refine S_callV (pc := 11) (ci := 4) (d2 := 1) (mc2 := 0) (ms2 := 0) (As := []) dX0_multiplied_11 kX4_length lkX0_45 (by assumption) rfl rfl rfl (Nat.le_of_ble_eq_true rfl) ⟨by decide, by decide⟩ (by decide) ?_
    refine c_X4_length (by assumption) ?_
    show G _ _ _ _ _ _ _ _ _ _ _ _ _
    rw [hFa]
    refine S_aload_n (pc := 14) dX0_multiplied_14 rfl ?_
    refine S_callV (pc := 15) (ci := 4) (d2 := 1) (mc2 := 0) (ms2 := 0) (As := []) dX0_multiplied_15 kX4_length lkX0_45 (by assumption) rfl rfl rfl (Nat.le_of_ble_eq_true rfl) ⟨by decide, by decide⟩ (by decide) ?_
    refine c_X4_length (by assumption) ?_
    show G _ _ _ _ _ _ _ _ _ _ _ _ _
    rw [hFb]
    refine G_iadd (pc := 18) dX0_multiplied_18 ?_
    refine G_iconst (pc := 19) dX0_multiplied_19 ?_
    refine G_isub (pc := 20) dX0_multiplied_20 ?_
    refine G_icmp_ge_t (pc := 21) 51 dX0_multiplied_21 rfl (by omega) (by omega) ?_
    refine S_aload_n (pc := 51) dX0_multiplied_51 rfl ?_
    refine S_getR (pc := 52) dX0_multiplied_52 fX0_14 (by assumption) rfl (by assumption) ?_
    refine G_aret (pc := 55) dX0_multiplied_55 rfl (by decide) ?_
    rw [hend i h0 (by omega)]
    exact hq
  | succ m ih =>
    intro i hm h0 h1
    have hcb := conv_bd (a := rv S a) (b := rv S b) (i := i) ha.2.2.2.2 hb.2.2.2.2 hpb.2 (by omega)
    refine G_iload_n (pc := 9) dX0_multiplied_9 rfl ?_
    refine S_aload_n (pc := 10) dX0_multiplied_10 rfl ?_
    refine S_callV (pc := 11) (ci := 4) (d2 := 1) (mc2 := 0) (ms2 := 0) (As := []) dX0_multiplied_11 kX4_length lkX0_45 (by assumption) rfl rfl rfl (Nat.le_of_ble_eq_true rfl) ⟨by decide, by decide⟩ (by decide) ?_
    refine c_X4_length (by assumption) ?_
    show G _ _ _ _ _ _ _ _ _ _ _ _ _
    rw [hFa]
    refine S_aload_n (pc := 14) dX0_multiplied_14 rfl ?_
    refine S_callV (pc := 15) (ci := 4) (d2 := 1) (mc2 := 0) (ms2 := 0) (As := []) dX0_multiplied_15 kX4_length lkX0_45 (by assumption) rfl rfl rfl (Nat.le_of_ble_eq_true rfl) ⟨by decide, by decide⟩ (by decide) ?_
    refine c_X4_length (by assumption) ?_
    show G _ _ _ _ _ _ _ _ _ _ _ _ _
    rw [hFb]
    refine G_iadd (pc := 18) dX0_multiplied_18 ?_
    refine G_iconst (pc := 19) dX0_multiplied_19 ?_
    refine G_isub (pc := 20) dX0_multiplied_20 ?_
    refine G_icmp_ge (pc := 21) 51 dX0_multiplied_21 rfl (by omega) (fun c21 => ?_) (fun c21 => ?_)
    · skip
      refine S_aload_n (pc := 51) dX0_multiplied_51 rfl ?_
      refine S_getR (pc := 52) dX0_multiplied_52 fX0_14 (by assumption) rfl (by assumption) ?_
      refine G_aret (pc := 55) dX0_multiplied_55 rfl (by decide) ?_
      rw [hend i h0 (by omega)]
      exact hq
    · skip
      refine S_aload_n (pc := 24) dX0_multiplied_24 rfl ?_
      refine S_getR (pc := 25) dX0_multiplied_25 fX0_14 (by assumption) rfl (by assumption) ?_
      refine G_iload_n (pc := 28) dX0_multiplied_28 rfl ?_
      refine S_aload_n (pc := 29) dX0_multiplied_29 rfl ?_
      refine S_getR (pc := 30) dX0_multiplied_30 fX0_41 (by assumption) rfl (by assumption) ?_
      refine S_aload_n (pc := 33) dX0_multiplied_33 rfl ?_
      refine S_aload_n (pc := 34) dX0_multiplied_34 rfl ?_
      refine G_iload_n (pc := 35) dX0_multiplied_35 rfl ?_
      refine G_callS (pc := 36) (d2 := 2) (mc2 := 0) (ms2 := 0) (As := [_, _, _]) dX0_multiplied_36 kX0_pairs lkX0_66 rfl rfl (Nat.le_of_ble_eq_true rfl) ⟨by decide, by decide⟩ (by decide) ?_
      refine c_X0_pairs hP (Row_ne ha ha14) (Row_ne hb hb14) (by omega) ?_
      rw [hva, hvb]
      show G _ _ _ _ _ _ _ _ _ _ _ _ _
      refine S_callV (pc := 39) (ci := 3) (d2 := 1) (mc2 := 0) (ms2 := 0) (As := [_]) dX0_multiplied_39 kX3_rest lkX0_53 (by assumption) rfl rfl rfl (Nat.le_of_ble_eq_true rfl) ⟨by decide, by decide⟩ (by decide) ?_
      refine c_X3_rest (IsRests_put hrs) hP (by omega) ?_
      show G _ _ _ _ _ _ _ _ _ _ _ _ _
      refine S_callV (pc := 42) (ci := 4) (d2 := 1) (mc2 := 0) (ms2 := 0) (As := [_, _]) dX0_multiplied_42 kX4_set lkX0_59 (by assumption) rfl rfl rfl (Nat.le_of_ble_eq_true rfl) ⟨by decide, by decide⟩ (by decide) ?_
      refine c_X4_set (hrow i h0 h1) hpb.2 (by omega) (em_bd (by omega)) ?_
      show G _ _ _ _ _ _ _ _ _ _ _ _ _
      refine G_iinc (pc := 45) (ls' := [(3, _), (0, _), (1, _), (2, _)]) dX0_multiplied_45 rfl (by decide) rfl ?_
      refine G_goto (pc := 48) 9 dX0_multiplied_48 rfl ?_
      rw [rput_rput, rput_rv, show conv (rv S a) (rv S b) i % p = pmul p (rv S a) (rv S b) i from rfl, seg_S h0]
      exact ih (i + 1) (by omega) (by omega) (by omega)
set_option maxRecDepth 100000 in
set_option maxHeartbeats 4000000 in
theorem c_X0_multiplied {g : GC} {p : Int} {sh : SH} {S : SS} {n a N b M : Nat} {Q : Option Value → GA → Nat → Prop} (hA : Alg p sh S) (ha : Row p sh S a N) (hb : Row p sh S b M) (ha14 : a ≠ 14) (hb14 : b ≠ 14) (hl : S.1 a 1 + S.1 b 1 ≤ 65)
    (hq : Q (some (gr g 14)) (hp g sh (rput S 14 (pmul p (rv S a) (rv S b)) 64)) n) : GCall g mX0_multiplied 3 0 0 [gr g 13, gr g a, gr g b] (hp g sh S) n Q := by
  have hA' := hA
  obtain ⟨hP, hrs, h13, p0, p14, -, -, -, r14, -, -, -⟩ := hA'
  have h141 := r14.1.1
  refine GCall.of (by decide) (Nat.le_of_ble_eq_true rfl) (ls := [(0, _), (1, _), (2, _)]) rfl ?_
  refine S_aload_n (pc := 0) dX0_multiplied_0 rfl ?_
  refine S_getR (pc := 1) dX0_multiplied_1 fX0_14 (by assumption) rfl (by assumption) ?_
  refine S_callV (pc := 4) (ci := 4) (d2 := 1) (mc2 := 0) (ms2 := 0) (As := []) dX0_multiplied_4 kX4_wipe lkX0_63 (by assumption) rfl rfl rfl (Nat.le_of_ble_eq_true rfl) ⟨by decide, by decide⟩ (by decide) ?_
  refine c_X4_wipe (by assumption) ?_
  show G _ _ _ _ _ _ _ _ _ _ _ _ _
  refine G_iconst (pc := 7) dX0_multiplied_7 ?_
  refine G_istore_n (pc := 8) (ls' := [(3, _), (0, _), (1, _), (2, _)]) dX0_multiplied_8 (by decide) rfl ?_
  have := l_X0_multiplied hA ha hb ha14 hb14 hl hq (S.1 a 1 + S.1 b 1).toNat 0 (by omega) (by omega) (Or.inl rfl)
  rwa [seg_0] at this
/-- x less a number -/
def line (p x : Int) : Int → Int := fun j => if j = 0 then (-x) % p else if j = 1 then 1 else 0
theorem line_sup {p x : Int} : Sup (line p x) 2 := fun j hj => by
  unfold line
  rw [if_neg (by omega), if_neg (by omega)]
theorem line_red {p x : Int} (hP : IsP p) : Red p (line p x) := fun j => by
  have hb := hP.bd
  have := em_bd (z := -x) (p := p) (by omega)
  unfold line
  by_cases h0 : j = 0
  · rw [if_pos h0]; exact this
  · rw [if_neg h0]
    by_cases h1 : j = 1
    · rw [if_pos h1]; omega
    · rw [if_neg h1]; omega
theorem line_of {p x : Int} {xs : Int → Int} (h : Sup xs 2) : iup (iup xs 0 ((-x) % p)) 1 1 = line p x := by
  funext j
  unfold line
  by_cases h1 : j = 1
  · rw [h1, iup_at]; rfl
  · rw [iup_ne h1]
    by_cases h0 : j = 0
    · rw [h0, iup_at]; rfl
    · rw [iup_ne h0, if_neg h0, if_neg h1, h j (by omega)]
set_option maxRecDepth 100000 in
set_option maxHeartbeats 4000000 in
theorem c_X0_lineAt {g : GC} {p : Int} {sh : SH} {S : SS} {n : Nat} {x : Int} {Q : Option Value → GA → Nat → Prop} (hA : Alg p sh S) (hx : 0 ≤ x ∧ x < p)
    (hq : Q (some (gr g 20)) (hp g sh (rput S 20 (line p x) 2)) n) : GCall g mX0_lineAt 2 0 0 [gr g 13, .int (iI x)] (hp g sh S) n Q := by
  have hA' := hA
  obtain ⟨hP, hrs, h13, p0, p14, -, -, p20, -, -, -, r20⟩ := hA'
  have hpb := hP.bd
  have h201 := r20.1.1
  have hrs1 := hrs.1
  have hem := em_bd (z := -x) (p := p) (by omega)
  refine GCall.of (by decide) (Nat.le_of_ble_eq_true rfl) (ls := [(0, _), (1, _)]) rfl ?_
  refine S_aload_n (pc := 0) dX0_lineAt_0 rfl ?_
  refine S_getR (pc := 1) dX0_lineAt_1 fX0_26 (by assumption) rfl (by assumption) ?_
  refine G_iconst (pc := 4) dX0_lineAt_4 ?_
  refine S_aload_n (pc := 5) dX0_lineAt_5 rfl ?_
  refine S_getR (pc := 6) dX0_lineAt_6 fX0_41 (by assumption) rfl (by assumption) ?_
  refine G_iload_n (pc := 9) dX0_lineAt_9 rfl ?_
  refine G_ineg (pc := 10) dX0_lineAt_10 ?_
  refine G_i2l (pc := 11) dX0_lineAt_11 (by omega) ?_
  refine S_callV (pc := 12) (ci := 3) (d2 := 1) (mc2 := 0) (ms2 := 0) (As := [_]) dX0_lineAt_12 kX3_rest lkX0_53 (by assumption) rfl rfl rfl (Nat.le_of_ble_eq_true rfl) ⟨by decide, by decide⟩ (by decide) ?_
  refine c_X3_rest hrs hP (by omega) ?_
  show G _ _ _ _ _ _ _ _ _ _ _ _ _
  refine S_callV (pc := 15) (ci := 4) (d2 := 1) (mc2 := 0) (ms2 := 0) (As := [_, _]) dX0_lineAt_15 kX4_set lkX0_59 (by assumption) rfl rfl rfl (Nat.le_of_ble_eq_true rfl) ⟨by decide, by decide⟩ (by decide) ?_
  refine c_X4_set r20 hpb.2 (by omega) hem ?_
  show G _ _ _ _ _ _ _ _ _ _ _ _ _
  refine S_aload_n (pc := 18) dX0_lineAt_18 rfl ?_
  refine S_getR (pc := 19) dX0_lineAt_19 fX0_26 (by assumption) rfl (by assumption) ?_
  refine G_iconst (pc := 22) dX0_lineAt_22 ?_
  refine G_iconst (pc := 23) dX0_lineAt_23 ?_
  refine S_callV (pc := 24) (ci := 4) (d2 := 1) (mc2 := 0) (ms2 := 0) (As := [_, _]) dX0_lineAt_24 kX4_set lkX0_59 (by assumption) rfl rfl rfl (Nat.le_of_ble_eq_true rfl) ⟨by decide, by decide⟩ (by decide) ?_
  refine c_X4_set (Row_put r20 (Sup_iup r20.2.2.2.1 (by omega)) (Red_iup r20.2.2.2.2 hem)) hpb.2 (by omega) (by omega) ?_
  show G _ _ _ _ _ _ _ _ _ _ _ _ _
  refine S_aload_n (pc := 27) dX0_lineAt_27 rfl ?_
  refine S_getR (pc := 28) dX0_lineAt_28 fX0_26 (by assumption) rfl (by assumption) ?_
  refine G_aret (pc := 31) dX0_lineAt_31 rfl (by decide) ?_
  rw [rput_rput, rput_rv, line_of r20.2.2.2.1]
  exact hq
