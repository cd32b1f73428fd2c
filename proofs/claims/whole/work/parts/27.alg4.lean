/-! Algebra: reduce -/
/-- what stands before number i of the QUOTIENT is sought -/
def DivI (p : Int) (xa xb q r : Int → Int) (la m i : Int) : Prop := Red p q ∧ Red p r ∧ (∀ j : Int, Cg p (conv q xb j + r j) (xa j)) ∧ (∀ j : Int, (j < 0 ∨ i + m ≤ j) → r j = 0) ∧ (∀ j : Int, (j ≤ i ∨ la - m < j ∨ j < 0) → q j = 0)
theorem DivI_step {p : Int} {xa xb q r : Int → Int} {la m i f : Int} (hP : IsP p) (h : DivI p xa xb q r la m i) (hi : 0 ≤ i) (hil : i ≤ la - m) (hm : 0 < m) (hb : Red p xb) (hbz : ∀ j : Int, (j < 0 ∨ m ≤ j) → xb j = 0) (hbl : xb (m - 1) ≠ 0) (hf : f = r (i + m - 1) * inv p (xb (m - 1)) % p) :
    DivI p xa xb (iup q i f) (padd p r (-f) xb i) la m (i - 1) := by
  obtain ⟨h1, h2, h3, h4, h5⟩ := h
  have hpb := hP.bd
  have hfb : 0 ≤ f ∧ f < p := by rw [hf]; exact em_bd (by omega)
  have hle := hb (m - 1)
  refine ⟨Red_iup h1 hfb, padd_red (by omega), fun j => ?_, fun j hj => ?_, fun j hj => ?_⟩
  · rw [conv_iup (h5 i (Or.inl (Int.le_refl _))) hi (fun k hk => hbz k (Or.inl hk))]
    refine Cg_tr ?_ (h3 j)
    have e1 : Cg p (padd p r (-f) xb i j) (r j + -f * xb (j - i)) := Cg_em
    refine Cg_tr (Cg_add (Cg_rf (a := conv q xb j + f * xb (j - i))) e1) (Cg_of ?_)
    rw [Int.neg_mul]
    omega
  · by_cases hjj : j = i - 1 + m
    · have e1 : Cg p (padd p r (-f) xb i j) (r j + -f * xb (j - i)) := Cg_em
      have e2 : Cg p f (r (i + m - 1) * inv p (xb (m - 1))) := by rw [hf]; exact Cg_em
      have e3 : Cg p (f * xb (m - 1)) (r (i + m - 1)) := by
        have e4 := Cg_mul e2 (Cg_rf (a := xb (m - 1)))
        have e5 := Cg_mul (Cg_rf (a := r (i + m - 1))) (inv_cg (x := xb (m - 1)) hP (by omega))
        rw [Int.mul_one] at e5
        refine Cg_tr e4 (Cg_tr (Cg_of ?_) e5)
        rw [Int.mul_assoc, Int.mul_comm (inv p (xb (m - 1)))]
      have e6 : Cg p (r j + -f * xb (j - i)) 0 := by
        rw [hjj, show i - 1 + m - i = m - 1 by omega, show i - 1 + m = i + m - 1 by omega, Int.neg_mul]
        have e7 := Cg_add (Cg_rf (a := r (i + m - 1))) (Cg_neg e3)
        exact Cg_tr e7 (Cg_of (by omega))
      exact Cg_z (Cg_tr e1 e6) (padd_red (by omega) j)
    · have hj2 : j < 0 ∨ i + m ≤ j := by omega
      rw [padd_out h2 (hbz _ (by omega))]
      exact h4 j hj2
  · rw [iup_ne (by omega)]
    exact h5 j (by omega)
set_option maxRecDepth 100000 in
set_option maxHeartbeats 4000000 in
theorem l_X0_reduce {g : GC} {p : Int} {sh : SH} {S : SS} {n a N b M : Nat} {Q : Option Value → GA → Nat → Prop} (hA : Alg p sh S) (ha : Row p sh S a N) (hb : Row p sh S b M) (hab : b ≠ a) (ha16 : a ≠ 16) (hb16 : b ≠ 16) (hm : 0 < S.1 b 1)
    (hq : ∀ q r : Int → Int, DivS p (rv S a) (rv S b) q r (S.1 a 1) (S.1 b 1) → Q (some (gr g 16)) (hp g sh (rput (rput S a r N) 16 q 64)) n) : ∀ (k : Nat) (i : Int) (q r : Int → Int), i + 1 ≤ k → (i < 0 → i = -1 ∨ S.1 a 1 < S.1 b 1) → i ≤ S.1 a 1 - S.1 b 1 → -64 ≤ i → DivI p (rv S a) (rv S b) q r (S.1 a 1) (S.1 b 1) i → Sup r N →
    G g mX0_reduce 4 0 0 42 [(5, .int (iI i)), (4, .int (iI (inv p (rv S b (S.1 b 1 - 1))))), (3, .int (iI (S.1 b 1))), (0, gr g 13), (1, gr g a), (2, gr g b)] [] (hp g sh (rput (rput S a r N) 16 q 64)) n 0 0 Q := by
  intro k
  have hA' := hA
  obtain ⟨hP, hrs, h13, p0, -, p16, -, -, -, r16, -, -⟩ := hA'
  have hpb := hP.bd
  have hrs1 := hrs.1
  have ha1 := ha.1.1
  have h161 := r16.1.1
  have hap := IsRow_apart ha.1 r16.1
  have hla := plen_bd (rv S a) N
  have hlb := plen_bd (rv S b) M
  have hN := ha.2.1
  have hM := hb.2.1
  have hLa := ha.2.2.1
  have hLb := hb.2.2.1
  have hbz : ∀ j : Int, (j < 0 ∨ S.1 b 1 ≤ j) → rv S b j = 0 := fun j hj => by
    rcases hj with hj | hj
    · exact hb.2.2.2.1 j (Or.inl hj)
    · exact Sup_len hb.2.2.2.1 (by omega)
  have hbl : rv S b (S.1 b 1 - 1) ≠ 0 := by rw [hLb]; exact plen_lead (by omega)
  have hinv := inv_bd (x := rv S b (S.1 b 1 - 1)) hP
  induction k with
  | zero =>
    intro i q r hk hi0 hil hlo hI hr
    refine G_iload (pc := 42) dX0_reduce_42 rfl ?_
    refine G_if_lt_t (pc := 44) 96 dX0_reduce_44 rfl (by omega) (by omega) ?_
    refine S_aload_n (pc := 96) dX0_reduce_96 rfl ?_
    refine S_getR (pc := 97) dX0_reduce_97 fX0_20 (by assumption) rfl (by assumption) ?_
    refine G_aret (pc := 100) dX0_reduce_100 rfl (by decide) ?_
    exact hq q r ⟨hI.1, hI.2.1, hI.2.2.1, fun j hj => hI.2.2.2.1 j (by omega), fun j hj => hI.2.2.2.2 j (by omega)⟩
  | succ k ih =>
    intro i q r hk hi0 hil hlo hI hr
    by_cases hi : i < 0
    · exact ih i q r (by omega) hi0 hil hlo hI hr
    have hqs : Sup q 64 := fun j hj => hI.2.2.2.2 j (by omega)
    have hra : Row p sh (rput (rput S a r N) 16 q 64) a N := Row_ne (Row_put ha hr hI.2.1) ha16
    have hrb : ∀ q' : Int → Int, Row p sh (rput (rput S a r N) 16 q' 64) b M := fun q' => Row_ne (Row_ne hb hab) hb16
    have hr16 : Row p sh (rput (rput S a r N) 16 q 64) 16 64 := Row_put (Row_ne r16 (Ne.symm ha16)) hqs hI.1
    have hrs2 : ∀ q' : Int → Int, IsRests p sh (rput (rput S a r N) 16 q' 64) 12 := fun q' => IsRests_put (IsRests_put hrs)
    have ea : ∀ q' : Int → Int, rv (rput (rput S a r N) 16 q' 64) a = r := fun q' => by rw [rput_ne ha16, rput_rv]
    have eb : ∀ q' : Int → Int, rv (rput (rput S a r N) 16 q' 64) b = rv S b := fun q' => by rw [rput_ne hb16, rput_ne hab]
    have eL : ∀ q' : Int → Int, (rput (rput S a r N) 16 q' 64).1 b 1 = S.1 b 1 := fun q' => by rw [rput_F (Or.inl hb16), rput_F (Or.inl hab)]
    have hx := hI.2.1 (i + S.1 b 1 - 1)
    have hf := em_bd (z := r (i + S.1 b 1 - 1) * inv p (rv S b (S.1 b 1 - 1))) (p := p) (by omega)
    have hst := DivI_step hP hI (by omega) hil hm hb.2.2.2.2 hbz hbl rfl
    have hsr : Sup (padd p r (-(r (i + S.1 b 1 - 1) * inv p (rv S b (S.1 b 1 - 1)) % p)) (rv S b) i) N := padd_sup (la := S.1 b 1) hI.2.1 hr (by omega) hbz (by omega)
    refine G_iload (pc := 42) dX0_reduce_42 rfl ?_
    refine G_if_lt_f (pc := 44) 96 dX0_reduce_44 rfl (by omega) (by omega) ?_
    refine S_aload_n (pc := 47) dX0_reduce_47 rfl ?_
    refine S_getR (pc := 48) dX0_reduce_48 fX0_41 (by assumption) rfl (by assumption) ?_
    refine S_aload_n (pc := 51) dX0_reduce_51 rfl ?_
    refine G_iload (pc := 52) dX0_reduce_52 rfl ?_
    refine G_iload_n (pc := 54) dX0_reduce_54 rfl ?_
    refine G_iadd (pc := 55) dX0_reduce_55 ?_
    refine G_iconst (pc := 56) dX0_reduce_56 ?_
    refine G_isub (pc := 57) dX0_reduce_57 ?_
    refine S_callV (pc := 58) (ci := 4) (d2 := 1) (mc2 := 0) (ms2 := 0) (As := [_]) dX0_reduce_58 kX4_get lkX0_49 (by assumption) rfl rfl rfl (Nat.le_of_ble_eq_true rfl) ⟨by decide, by decide⟩ (by decide) ?_
    refine c_X4_get hra (by omega) ?_
    rw [ea]
    show G _ _ _ _ _ _ _ _ _ _ _ _ _
    refine G_iload (pc := 61) dX0_reduce_61 rfl ?_
    refine S_callV (pc := 63) (ci := 3) (d2 := 1) (mc2 := 0) (ms2 := 0) (As := [_, _]) dX0_reduce_63 kX3_product lkX0_85 (by assumption) rfl rfl rfl (Nat.le_of_ble_eq_true rfl) ⟨by decide, by decide⟩ (by decide) ?_
    refine c_X3_product (hrs2 q) hP hx hinv ?_
    show G _ _ _ _ _ _ _ _ _ _ _ _ _
    refine G_istore (pc := 66) (ls' := [(6, _), (5, _), (4, _), (3, _), (0, _), (1, _), (2, _)]) dX0_reduce_66 (by decide) rfl ?_
    refine S_aload_n (pc := 68) dX0_reduce_68 rfl ?_
    refine S_getR (pc := 69) dX0_reduce_69 fX0_20 (by assumption) rfl (by assumption) ?_
    refine G_iload (pc := 72) dX0_reduce_72 rfl ?_
    refine G_iload (pc := 74) dX0_reduce_74 rfl ?_
    refine S_callV (pc := 76) (ci := 4) (d2 := 1) (mc2 := 0) (ms2 := 0) (As := [_, _]) dX0_reduce_76 kX4_set lkX0_59 (by assumption) rfl rfl rfl (Nat.le_of_ble_eq_true rfl) ⟨by decide, by decide⟩ (by decide) ?_
    refine c_X4_set hr16 hpb.2 (by omega) hf ?_
    rw [rput_rput, rput_rv]
    show G _ _ _ _ _ _ _ _ _ _ _ _ _
    refine S_aload_n (pc := 79) dX0_reduce_79 rfl ?_
    refine S_aload_n (pc := 80) dX0_reduce_80 rfl ?_
    refine G_iload (pc := 81) dX0_reduce_81 rfl ?_
    refine G_ineg (pc := 83) dX0_reduce_83 ?_
    refine S_aload_n (pc := 84) dX0_reduce_84 rfl ?_
    refine G_iload (pc := 85) dX0_reduce_85 rfl ?_
    refine S_callV (pc := 87) (ci := 0) (d2 := 2) (mc2 := 0) (ms2 := 0) (As := [_, _, _, _]) dX0_reduce_87 kX0_addMultiple lkX0_87 (by assumption) rfl rfl rfl (Nat.le_of_ble_eq_true rfl) ⟨by decide, by decide⟩ (by decide) ?_
    refine c_X0_addMultiple hP (hrs2 _) h13 p0 (Row_ne (Row_put ha hr hI.2.1) ha16) (hrb _) hab (by omega) (by omega) (by rw [eL]; omega) ?_
    rw [ea, eb, rput_comm (Ne.symm ha16) (fun z => hap.2 z.symm.symm) (fun z => hap.1 z), rput_rput]
    show G _ _ _ _ _ _ _ _ _ _ _ _ _
    refine G_iinc (pc := 90) (ls' := [(5, _), (6, _), (4, _), (3, _), (0, _), (1, _), (2, _)]) dX0_reduce_90 rfl (by decide) rfl ?_
    refine G_goto (pc := 93) 42 dX0_reduce_93 rfl ?_
    refine G_ls (ls' := [(5, _), (4, _), (3, _), (0, _), (1, _), (2, _)]) (lsub_c rfl (lsub_c rfl (lsub_c rfl (lsub_c rfl (lsub_c rfl (lsub_c rfl lsub_n)))))) ?_
    exact ih (i + -1) _ _ (by omega) (by omega) (by omega) (by omega) hst hsr
set_option maxRecDepth 100000 in
set_option maxHeartbeats 4000000 in
theorem c_X0_reduce {g : GC} {p : Int} {sh : SH} {S : SS} {n a N b M : Nat} {Q : Option Value → GA → Nat → Prop} (hA : Alg p sh S) (ha : Row p sh S a N) (hb : Row p sh S b M) (hab : b ≠ a) (ha16 : a ≠ 16) (hb16 : b ≠ 16) (hm : 0 < S.1 b 1)
    (hq : ∀ q r : Int → Int, DivS p (rv S a) (rv S b) q r (S.1 a 1) (S.1 b 1) → Q (some (gr g 16)) (hp g sh (rput (rput S a r N) 16 q 64)) n) : GCall g mX0_reduce 4 0 0 [gr g 13, gr g a, gr g b] (hp g sh S) n Q := by
  have hA' := hA
  obtain ⟨hP, hrs, h13, p0, -, p16, -, -, -, r16, -, -⟩ := hA'
  have hpb := hP.bd
  have hrs1 := hrs.1
  have ha0 := ha.1
  have hb0 := hb.1
  have ha1 := ha.1.1
  have hb1 := hb.1.1
  have h161 := r16.1.1
  have hlb := plen_bd (rv S b) M
  have hla := plen_bd (rv S a) N
  have hN := ha.2.1
  have hM := hb.2.1
  have hLa := ha.2.2.1
  have hLb := hb.2.2.1
  have hx := hb.2.2.2.2 (S.1 b 1 - 1)
  have hFa : (rput S 16 pz 64).1 a 1 = S.1 a 1 := rput_F (Or.inl ha16)
  have hFb : (rput S 16 pz 64).1 b 1 = S.1 b 1 := rput_F (Or.inl hb16)
  have hvb : rv (rput S 16 pz 64) b = rv S b := rput_ne hb16
  refine GCall.of (by decide) (Nat.le_of_ble_eq_true rfl) (ls := [(0, _), (1, _), (2, _)]) rfl ?_
  refine S_aload_n (pc := 0) dX0_reduce_0 rfl ?_
  refine S_getR (pc := 1) dX0_reduce_1 fX0_20 (by assumption) rfl (by assumption) ?_
  refine S_callV (pc := 4) (ci := 4) (d2 := 1) (mc2 := 0) (ms2 := 0) (As := []) dX0_reduce_4 kX4_wipe lkX0_63 (by assumption) rfl rfl rfl (Nat.le_of_ble_eq_true rfl) ⟨by decide, by decide⟩ (by decide) ?_
  refine c_X4_wipe (by assumption) ?_
  show G _ _ _ _ _ _ _ _ _ _ _ _ _
  refine S_aload_n (pc := 7) dX0_reduce_7 rfl ?_
  refine S_callV (pc := 8) (ci := 4) (d2 := 1) (mc2 := 0) (ms2 := 0) (As := []) dX0_reduce_8 kX4_length lkX0_45 (by assumption) rfl rfl rfl (Nat.le_of_ble_eq_true rfl) ⟨by decide, by decide⟩ (by decide) ?_
  refine c_X4_length hb0 ?_
  rw [hFb]
  show G _ _ _ _ _ _ _ _ _ _ _ _ _
  refine G_istore_n (pc := 11) (ls' := [(3, _), (0, _), (1, _), (2, _)]) dX0_reduce_11 (by decide) rfl ?_
  refine G_iload_n (pc := 12) dX0_reduce_12 rfl ?_
  refine G_if_ne_t (pc := 13) 21 dX0_reduce_13 rfl (by omega) (by omega) ?_
  refine S_aload_n (pc := 21) dX0_reduce_21 rfl ?_
  refine S_getR (pc := 22) dX0_reduce_22 fX0_41 (by assumption) rfl (by assumption) ?_
  refine S_aload_n (pc := 25) dX0_reduce_25 rfl ?_
  refine S_callV (pc := 26) (ci := 4) (d2 := 2) (mc2 := 0) (ms2 := 0) (As := []) dX0_reduce_26 kX4_lead lkX0_79 (by assumption) rfl rfl rfl (Nat.le_of_ble_eq_true rfl) ⟨by decide, by decide⟩ (by decide) ?_
  refine c_X4_lead (Row_ne hb hb16) ?_
  rw [hFb, hvb]
  show G _ _ _ _ _ _ _ _ _ _ _ _ _
  refine S_callV (pc := 29) (ci := 3) (d2 := 3) (mc2 := 0) (ms2 := 0) (As := [_]) dX0_reduce_29 kX3_inverse lkX0_82 (by assumption) rfl rfl rfl (Nat.le_of_ble_eq_true rfl) ⟨by decide, by decide⟩ (by decide) ?_
  refine c_X3_inverse (IsRests_put hrs) hP hx ?_
  show G _ _ _ _ _ _ _ _ _ _ _ _ _
  refine G_istore (pc := 32) (ls' := [(4, _), (3, _), (0, _), (1, _), (2, _)]) dX0_reduce_32 (by decide) rfl ?_
  refine S_aload_n (pc := 34) dX0_reduce_34 rfl ?_
  refine S_callV (pc := 35) (ci := 4) (d2 := 1) (mc2 := 0) (ms2 := 0) (As := []) dX0_reduce_35 kX4_length lkX0_45 (by assumption) rfl rfl rfl (Nat.le_of_ble_eq_true rfl) ⟨by decide, by decide⟩ (by decide) ?_
  refine c_X4_length ha0 ?_
  rw [hFa]
  show G _ _ _ _ _ _ _ _ _ _ _ _ _
  refine G_iload_n (pc := 38) dX0_reduce_38 rfl ?_
  refine G_isub (pc := 39) dX0_reduce_39 ?_
  refine G_istore (pc := 40) (ls' := [(5, _), (4, _), (3, _), (0, _), (1, _), (2, _)]) dX0_reduce_40 (by decide) rfl ?_
  have := l_X0_reduce hA ha hb hab ha16 hb16 hm hq (S.1 a 1 - S.1 b 1 + 1).toNat (S.1 a 1 - S.1 b 1) pz (rv S a) (by omega) (by omega) (Int.le_refl _) (by omega) ⟨Red_pz (by omega), ha.2.2.2.2, fun j => Cg_of (by rw [conv_pz]; omega), fun j hj => by
    rcases hj with hj | hj
    · exact ha.2.2.2.1 j (Or.inl hj)
    · exact Sup_len ha.2.2.2.1 (by omega), fun j _ => rfl⟩ ha.2.2.2.1
  rwa [Row_self ha] at this
