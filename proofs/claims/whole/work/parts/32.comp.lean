/-! Algebra: composed, lastByFactor -/
/-- a with b in the place of x: the upper t numbers of a -/
def cmpo (p : Int) (a b : Int → Int) (L : Int) : Nat → Int → Int
  | 0 => pz
  | t + 1 => iup (pmul p (cmpo p a b L t) b) 0 ((pmul p (cmpo p a b L t) b 0 + a (L - 1 - t)) % p)
theorem pmul_sup {p la lb : Int} {a b : Int → Int} {N : Nat} (ha : ∀ j : Int, la ≤ j → a j = 0) (hb : ∀ j : Int, lb ≤ j → b j = 0) (h : la + lb - 1 ≤ N) : Sup (pmul p a b) N := fun j hj => pmul_out ha hb (by omega)
theorem cmpo_ok {p L lb : Int} {a b : Int → Int} (hp : 0 < p) (hb : ∀ j : Int, lb ≤ j → b j = 0) : ∀ t : Nat, (∀ s : Nat, s < t → plen (cmpo p a b L s) 64 + lb ≤ 65) → Sup (cmpo p a b L t) 64 ∧ Red p (cmpo p a b L t)
  | 0, _ => ⟨Sup_pz, Red_pz hp⟩
  | t + 1, h => by
    obtain ⟨h1, h2⟩ := cmpo_ok hp hb t (fun s hs => h s (by omega))
    have h3 := h t (by omega)
    exact ⟨Sup_iup (pmul_sup (la := plen (cmpo p a b L t) 64) (fun j hj => Sup_len h1 hj) hb (by omega)) (by omega), Red_iup (pmul_red hp) (em_bd hp)⟩
set_option maxRecDepth 100000 in
set_option maxHeartbeats 4000000 in
theorem l_X0_composed {g : GC} {p : Int} {sh : SH} {S : SS} {n a N b M : Nat} {Q : Option Value → GA → Nat → Prop} (hA : Alg p sh S) (ha : Row p sh S a N) (hb : Row p sh S b M) (ha14 : a ≠ 14) (hb14 : b ≠ 14) (ha18 : a ≠ 18) (hb18 : b ≠ 18)
    (hroom : ∀ t : Nat, t < S.1 a 1 → plen (cmpo p (rv S a) (rv S b) (S.1 a 1) t) 64 + S.1 b 1 ≤ 65)
    (hq : ∀ m : Int → Int, Sup m 64 → Red p m → Q (some (gr g 18)) (hp g sh (rput (rput S 14 m 64) 18 (cmpo p (rv S a) (rv S b) (S.1 a 1) (S.1 a 1).toNat) 64)) n) : ∀ (k t : Nat) (m : Int → Int), t + k = S.1 a 1 → Sup m 64 → Red p m → G g mX0_composed 4 0 0 14 [(3, .int (iI (S.1 a 1 - 1 - t))), (0, gr g 13), (1, gr g a), (2, gr g b)] [] (hp g sh (rput (rput S 14 m 64) 18 (cmpo p (rv S a) (rv S b) (S.1 a 1) t) 64)) n 0 0 Q := by
  intro k
  have hA' := hA
  obtain ⟨hP, hrs, h13, p0, p14, -, p18, -, r14, -, r18, -⟩ := hA'
  have hpb := hP.bd
  have ha1 := ha.1.1
  have h181 := r18.1.1
  have hrs1 := hrs.1
  have hla := plen_bd (rv S a) N
  have hN := ha.2.1
  have hM := hb.2.1
  have hLa := ha.2.2.1
  have hLb := hb.2.2.1
  have hbz : ∀ j : Int, S.1 b 1 ≤ j → rv S b j = 0 := fun j hj => Sup_len hb.2.2.2.1 (by omega)
  induction k with
  | zero =>
    intro t m ht hm1 hm2
    refine G_iload_n (pc := 14) dX0_composed_14 rfl ?_
    refine G_if_lt_t (pc := 15) 71 dX0_composed_15 rfl (by omega) (by omega) ?_
    refine S_aload_n (pc := 71) dX0_composed_71 rfl ?_
    refine S_getR (pc := 72) dX0_composed_72 fX0_23 (by assumption) rfl (by assumption) ?_
    refine G_aret (pc := 75) dX0_composed_75 rfl (by decide) ?_
    rw [show t = (S.1 a 1).toNat by omega]
    exact hq m hm1 hm2
  | succ k ih =>
    intro t m ht hm1 hm2
    have hok := cmpo_ok (L := S.1 a 1) (a := rv S a) (p := p) (by omega) hbz t (fun s hs => hroom s (by omega))
    have hok2 := cmpo_ok (L := S.1 a 1) (a := rv S a) (p := p) (by omega) hbz (t + 1) (fun s hs => hroom s (by omega))
    have hrt := hroom t (by omega)
    have hps : Sup (pmul p (cmpo p (rv S a) (rv S b) (S.1 a 1) t) (rv S b)) 64 := pmul_sup (la := plen (cmpo p (rv S a) (rv S b) (S.1 a 1) t) 64) (fun j hj => Sup_len hok.1 hj) hbz (by omega)
    have hA2 : Alg p sh (rput (rput S 14 m 64) 18 (cmpo p (rv S a) (rv S b) (S.1 a 1) t) 64) := Alg_18 (Alg_14 hA hm1 hm2) hok.1 hok.2
    have h14 : ∀ c : Int → Int, Row p sh (rput (rput (rput S 14 m 64) 18 (cmpo p (rv S a) (rv S b) (S.1 a 1) t) 64) 14 (pmul p (cmpo p (rv S a) (rv S b) (S.1 a 1) t) (rv S b)) 64) 14 64 := fun _ => Row_put hA2.2.2.2.2.2.2.2.2.1 hps (pmul_red (by omega))
    have hx := pmul_red (p := p) (a := cmpo p (rv S a) (rv S b) (S.1 a 1) t) (b := rv S b) (by omega) 0
    have hy := ha.2.2.2.2 (S.1 a 1 - 1 - t)
    have e1 : (rput (rput S 14 m 64) 18 (cmpo p (rv S a) (rv S b) (S.1 a 1) t) 64).1 18 1 = plen (cmpo p (rv S a) (rv S b) (S.1 a 1) t) 64 := rput_L
    have e2 : (rput (rput S 14 m 64) 18 (cmpo p (rv S a) (rv S b) (S.1 a 1) t) 64).1 b 1 = S.1 b 1 := by rw [rput_F (Or.inl hb18), rput_F (Or.inl hb14)]
    have e3 : rv (rput (rput S 14 m 64) 18 (cmpo p (rv S a) (rv S b) (S.1 a 1) t) 64) 18 = cmpo p (rv S a) (rv S b) (S.1 a 1) t := rput_rv
    have e4 : rv (rput (rput S 14 m 64) 18 (cmpo p (rv S a) (rv S b) (S.1 a 1) t) 64) b = rv S b := by rw [rput_ne hb18, rput_ne hb14]
    have e5 : rput (rput (rput (rput S 14 m 64) 18 (cmpo p (rv S a) (rv S b) (S.1 a 1) t) 64) 14 (pmul p (cmpo p (rv S a) (rv S b) (S.1 a 1) t) (rv S b)) 64) 18 (pmul p (cmpo p (rv S a) (rv S b) (S.1 a 1) t) (rv S b)) 64 = rput (rput S 14 (pmul p (cmpo p (rv S a) (rv S b) (S.1 a 1) t) (rv S b)) 64) 18 (pmul p (cmpo p (rv S a) (rv S b) (S.1 a 1) t) (rv S b)) 64 := by
      rw [rput_comm (a := 18) (b := 14) (by decide) (by decide) (by decide), rput_rput, rput_rput]
    have h18 : Row p sh (rput (rput S 14 (pmul p (cmpo p (rv S a) (rv S b) (S.1 a 1) t) (rv S b)) 64) 18 (pmul p (cmpo p (rv S a) (rv S b) (S.1 a 1) t) (rv S b)) 64) 18 64 := Row_put (Row_ne r18 (by decide)) hps (pmul_red (by omega))
    have ha2 : Row p sh (rput (rput S 14 (pmul p (cmpo p (rv S a) (rv S b) (S.1 a 1) t) (rv S b)) 64) 18 (pmul p (cmpo p (rv S a) (rv S b) (S.1 a 1) t) (rv S b)) 64) a N := Row_ne (Row_ne ha ha14) ha18
    have e6 : rv (rput (rput S 14 (pmul p (cmpo p (rv S a) (rv S b) (S.1 a 1) t) (rv S b)) 64) 18 (pmul p (cmpo p (rv S a) (rv S b) (S.1 a 1) t) (rv S b)) 64) a = rv S a := by rw [rput_ne ha18, rput_ne ha14]
    refine G_iload_n (pc := 14) dX0_composed_14 rfl ?_
    refine G_if_lt_f (pc := 15) 71 dX0_composed_15 rfl (by omega) (by omega) ?_
    refine S_aload_n (pc := 18) dX0_composed_18 rfl ?_
    refine S_getR (pc := 19) dX0_composed_19 fX0_23 (by assumption) rfl (by assumption) ?_
    refine S_aload_n (pc := 22) dX0_composed_22 rfl ?_
    refine S_aload_n (pc := 23) dX0_composed_23 rfl ?_
    refine S_getR (pc := 24) dX0_composed_24 fX0_23 (by assumption) rfl (by assumption) ?_
    refine S_aload_n (pc := 27) dX0_composed_27 rfl ?_
    refine S_callV (pc := 28) (ci := 0) (d2 := 3) (mc2 := 0) (ms2 := 0) (As := [_, _]) dX0_composed_28 kX0_multiplied lkX0_99 (by assumption) rfl rfl rfl (Nat.le_of_ble_eq_true rfl) ⟨by decide, by decide⟩ (by decide) ?_
    refine c_X0_multiplied hA2 hA2.2.2.2.2.2.2.2.2.2.2.1 (Row_ne (Row_ne hb hb14) hb18) (by decide) hb14 (by rw [e1, e2]; omega) ?_
    rw [e3, e4]
    show G _ _ _ _ _ _ _ _ _ _ _ _ _
    refine S_callV (pc := 31) (ci := 4) (d2 := 3) (mc2 := 0) (ms2 := 0) (As := [_]) dX0_composed_31 kX4_copy lkX0_91 (by assumption) rfl rfl rfl (Nat.le_of_ble_eq_true rfl) ⟨by decide, by decide⟩ (by decide) ?_
    refine c_X4_copy (Row_ne hA2.2.2.2.2.2.2.2.2.2.2.1 (by decide)) (h14 pz) (by decide) (by omega) ?_
    rw [rput_rv, clip_id hps, e5]
    show G _ _ _ _ _ _ _ _ _ _ _ _ _
    refine S_aload_n (pc := 34) dX0_composed_34 rfl ?_
    refine S_getR (pc := 35) dX0_composed_35 fX0_23 (by assumption) rfl (by assumption) ?_
    refine G_iconst (pc := 38) dX0_composed_38 ?_
    refine S_aload_n (pc := 39) dX0_composed_39 rfl ?_
    refine S_getR (pc := 40) dX0_composed_40 fX0_41 (by assumption) rfl (by assumption) ?_
    refine S_aload_n (pc := 43) dX0_composed_43 rfl ?_
    refine S_getR (pc := 44) dX0_composed_44 fX0_23 (by assumption) rfl (by assumption) ?_
    refine G_iconst (pc := 47) dX0_composed_47 ?_
    refine S_callV (pc := 48) (ci := 4) (d2 := 1) (mc2 := 0) (ms2 := 0) (As := [_]) dX0_composed_48 kX4_get lkX0_49 (by assumption) rfl rfl rfl (Nat.le_of_ble_eq_true rfl) ⟨by decide, by decide⟩ (by decide) ?_
    refine c_X4_get h18 (by omega) ?_
    rw [rput_rv]
    show G _ _ _ _ _ _ _ _ _ _ _ _ _
    refine G_i2l (pc := 51) dX0_composed_51 (by omega) ?_
    refine S_aload_n (pc := 52) dX0_composed_52 rfl ?_
    refine G_iload_n (pc := 53) dX0_composed_53 rfl ?_
    refine S_callV (pc := 54) (ci := 4) (d2 := 1) (mc2 := 0) (ms2 := 0) (As := [_]) dX0_composed_54 kX4_get lkX0_49 (by assumption) rfl rfl rfl (Nat.le_of_ble_eq_true rfl) ⟨by decide, by decide⟩ (by decide) ?_
    refine c_X4_get ha2 (by omega) ?_
    rw [e6]
    show G _ _ _ _ _ _ _ _ _ _ _ _ _
    refine G_i2l (pc := 57) dX0_composed_57 (by omega) ?_
    refine G_ladd (pc := 58) dX0_composed_58 ?_
    refine S_callV (pc := 59) (ci := 3) (d2 := 1) (mc2 := 0) (ms2 := 0) (As := [_]) dX0_composed_59 kX3_rest lkX0_53 (by assumption) rfl rfl rfl (Nat.le_of_ble_eq_true rfl) ⟨by decide, by decide⟩ (by decide) ?_
    refine c_X3_rest (IsRests_put (IsRests_put hrs)) hP (by omega) ?_
    show G _ _ _ _ _ _ _ _ _ _ _ _ _
    refine S_callV (pc := 62) (ci := 4) (d2 := 1) (mc2 := 0) (ms2 := 0) (As := [_, _]) dX0_composed_62 kX4_set lkX0_59 (by assumption) rfl rfl rfl (Nat.le_of_ble_eq_true rfl) ⟨by decide, by decide⟩ (by decide) ?_
    refine c_X4_set h18 hpb.2 (by omega) (em_bd (by omega)) ?_
    rw [rput_rput, rput_rv]
    show G _ _ _ _ _ _ _ _ _ _ _ _ _
    refine G_iinc (pc := 65) (ls' := [(3, _), (0, _), (1, _), (2, _)]) dX0_composed_65 rfl (by decide) rfl ?_
    refine G_goto (pc := 68) 14 dX0_composed_68 rfl ?_
    have := ih (t + 1) _ (by omega) hps (pmul_red (by omega))
    rw [show S.1 a 1 - 1 - ((t + 1 : Nat) : Int) = S.1 a 1 - 1 - t + -1 by omega] at this
    exact this
set_option maxRecDepth 100000 in
set_option maxHeartbeats 4000000 in
theorem c_X0_composed {g : GC} {p : Int} {sh : SH} {S : SS} {n a N b M : Nat} {Q : Option Value → GA → Nat → Prop} (hA : Alg p sh S) (ha : Row p sh S a N) (hb : Row p sh S b M) (ha14 : a ≠ 14) (hb14 : b ≠ 14) (ha18 : a ≠ 18) (hb18 : b ≠ 18)
    (hroom : ∀ t : Nat, t < S.1 a 1 → plen (cmpo p (rv S a) (rv S b) (S.1 a 1) t) 64 + S.1 b 1 ≤ 65)
    (hq : ∀ m : Int → Int, Sup m 64 → Red p m → Q (some (gr g 18)) (hp g sh (rput (rput S 14 m 64) 18 (cmpo p (rv S a) (rv S b) (S.1 a 1) (S.1 a 1).toNat) 64)) n) : GCall g mX0_composed 4 0 0 [gr g 13, gr g a, gr g b] (hp g sh S) n Q := by
  have hA' := hA
  obtain ⟨hP, hrs, h13, p0, p14, -, p18, -, r14, -, r18, -⟩ := hA'
  have ha0 := ha.1
  have ha1 := ha.1.1
  have h181 := r18.1.1
  have hla := plen_bd (rv S a) N
  have hLa := ha.2.2.1
  have eF : (rput S 18 pz 64).1 a 1 = S.1 a 1 := rput_F (Or.inl ha18)
  refine GCall.of (by decide) (Nat.le_of_ble_eq_true rfl) (ls := [(0, _), (1, _), (2, _)]) rfl ?_
  refine S_aload_n (pc := 0) dX0_composed_0 rfl ?_
  refine S_getR (pc := 1) dX0_composed_1 fX0_23 (by assumption) rfl (by assumption) ?_
  refine S_callV (pc := 4) (ci := 4) (d2 := 1) (mc2 := 0) (ms2 := 0) (As := []) dX0_composed_4 kX4_wipe lkX0_63 (by assumption) rfl rfl rfl (Nat.le_of_ble_eq_true rfl) ⟨by decide, by decide⟩ (by decide) ?_
  refine c_X4_wipe (by assumption) ?_
  show G _ _ _ _ _ _ _ _ _ _ _ _ _
  refine S_aload_n (pc := 7) dX0_composed_7 rfl ?_
  refine S_callV (pc := 8) (ci := 4) (d2 := 1) (mc2 := 0) (ms2 := 0) (As := []) dX0_composed_8 kX4_length lkX0_45 (by assumption) rfl rfl rfl (Nat.le_of_ble_eq_true rfl) ⟨by decide, by decide⟩ (by decide) ?_
  refine c_X4_length (by assumption) ?_
  show G _ _ _ _ _ _ _ _ _ _ _ _ _
  rw [eF]
  refine G_iconst (pc := 11) dX0_composed_11 ?_
  refine G_isub (pc := 12) dX0_composed_12 ?_
  refine G_istore_n (pc := 13) (ls' := [(3, _), (0, _), (1, _), (2, _)]) dX0_composed_13 (by decide) rfl ?_
  have := l_X0_composed hA ha hb ha14 hb14 ha18 hb18 hroom hq (S.1 a 1).toNat 0 (rv S 14) (by omega) r14.2.2.2.1 r14.2.2.2.2
  rw [Row_self r14, show S.1 a 1 - 1 - ((0 : Nat) : Int) = S.1 a 1 - 1 by omega] at this
  exact this
