/-! the Model: its rows -/
def mrow (A : Int → Int) (r : Int) : Int → Int := fun j => if 0 ≤ j ∧ j < 80 then A (80 * r + j) else 0
def mput (A : Int → Int) (r : Int) (ys : Int → Int) : Int → Int := fun k => if 80 * r ≤ k ∧ k < 80 * r + 80 then ys (k - 80 * r) else A k
theorem mrow_in {A : Int → Int} {r j : Int} (h : 0 ≤ j ∧ j < 80) : mrow A r j = A (80 * r + j) := if_pos h
theorem mrow_sup {A : Int → Int} {r : Int} : Sup (mrow A r) 80 := fun j hj => if_neg (by omega)
theorem mrow_red {p : Int} {A : Int → Int} {r : Int} (hp : 0 < p) (h : Red p A) : Red p (mrow A r) := fun j => by
  unfold mrow
  by_cases hj : 0 ≤ j ∧ j < 80
  · rw [if_pos hj]; exact h _
  · rw [if_neg hj]; omega
theorem mrow_mput {A : Int → Int} {r : Int} {ys : Int → Int} (h : Sup ys 80) : mrow (mput A r ys) r = ys := by
  funext j
  unfold mrow mput
  by_cases hj : 0 ≤ j ∧ j < 80
  · rw [if_pos hj, if_pos (by omega), show 80 * r + j - 80 * r = j by omega]
  · rw [if_neg hj, h j (by omega)]
theorem mrow_ne {A : Int → Int} {r r' : Int} {ys : Int → Int} (h : r' ≠ r) : mrow (mput A r ys) r' = mrow A r' := by
  funext j
  unfold mrow mput
  by_cases hj : 0 ≤ j ∧ j < 80
  · rw [if_pos hj, if_pos hj, if_neg (by omega)]
  · rw [if_neg hj, if_neg hj]
theorem mput_mput {A : Int → Int} {r : Int} {xs ys : Int → Int} : mput (mput A r xs) r ys = mput A r ys := by
  funext k
  unfold mput
  by_cases hk : 80 * r ≤ k ∧ k < 80 * r + 80
  · rw [if_pos hk, if_pos hk]
  · rw [if_neg hk, if_neg hk, if_neg hk]
theorem mput_comm {A : Int → Int} {r s : Int} {xs ys : Int → Int} (h : r ≠ s) : mput (mput A r xs) s ys = mput (mput A s ys) r xs := by
  funext k
  unfold mput
  by_cases hk : 80 * r ≤ k ∧ k < 80 * r + 80
  · rw [if_pos hk, if_neg (by omega), if_pos hk]
  · rw [if_neg hk, if_neg hk]
theorem mput_self {A : Int → Int} {r : Int} : mput A r (mrow A r) = A := by
  funext k
  unfold mput mrow
  by_cases hk : 80 * r ≤ k ∧ k < 80 * r + 80
  · rw [if_pos hk, if_pos (by omega), show 80 * r + (k - 80 * r) = k by omega]
  · rw [if_neg hk]
theorem mput_red {p : Int} {A : Int → Int} {r : Int} {ys : Int → Int} (h : Red p A) (h2 : Red p ys) : Red p (mput A r ys) := fun k => by
  unfold mput
  by_cases hk : 80 * r ≤ k ∧ k < 80 * r + 80
  · rw [if_pos hk]; exact h2 _
  · rw [if_neg hk]; exact h k
/-- a number of a row -/
theorem mput_iup {A : Int → Int} {r i v : Int} {xs : Int → Int} (hi : 0 ≤ i ∧ i < 80) : iup (mput A r xs) (80 * r + i) v = mput A r (iup xs i v) := by
  funext k
  unfold iup mput
  by_cases hk : k = 80 * r + i
  · rw [if_pos hk, if_pos (by omega)]
    exact (if_pos (by omega)).symm
  · rw [if_neg hk]
    by_cases hk2 : 80 * r ≤ k ∧ k < 80 * r + 80
    · rw [if_pos hk2, if_pos hk2]
      exact (if_neg (by omega)).symm
    · rw [if_neg hk2, if_neg hk2]
/-- the Model's row r gets these numbers -/
def mset (S : SS) (r : Int) (ys : Int → Int) : SS := putA S 97 (mput (S.2.1 97) r ys)
/-- the Model's row r -/
def mg (S : SS) (r : Int) : Int → Int := mrow (S.2.1 97) r
theorem mg_set {S : SS} {r : Int} {ys : Int → Int} (h : Sup ys 80) : mg (mset S r ys) r = ys := by
  unfold mg mset; rw [putA_at]; exact mrow_mput h
theorem mg_ne {S : SS} {r r' : Int} {ys : Int → Int} (h : r' ≠ r) : mg (mset S r ys) r' = mg S r' := by
  unfold mg mset; rw [putA_at]; exact mrow_ne h
theorem mset_mset {S : SS} {r : Int} {xs ys : Int → Int} : mset (mset S r xs) r ys = mset S r ys := by
  unfold mset; rw [putA_at, putA_putA, mput_mput]
theorem mset_comm {S : SS} {r s : Int} {xs ys : Int → Int} (h : r ≠ s) : mset (mset S r xs) s ys = mset (mset S s ys) r xs := by
  unfold mset; rw [putA_at, putA_at, putA_putA, putA_putA, mput_comm h]
theorem mset_self {S : SS} {r : Int} : mset S r (mg S r) = S := by
  unfold mset mg; rw [mput_self, putA_same]
theorem mset_setA {S : SS} {r i v : Int} {xs : Int → Int} (hi : 0 ≤ i ∧ i < 80) : setA (mset S r xs) 97 (80 * r + i) v = mset S r (iup xs i v) := by
  unfold mset; rw [setA_putA, mput_iup hi]
def MdW (p : Int) (sh : SH) (S : SS) : Prop := IsP p ∧ sh 96 = some (.inl 10) ∧ S.1 96 1 = p ∧ S.2.2 96 2 = some 97 ∧ sh 97 = some (.inr (1, 1280)) ∧ Red p (S.2.1 97)
theorem MdW_set {p : Int} {sh : SH} {S : SS} {r : Int} {ys : Int → Int} (h : MdW p sh S) (hy : Red p ys) : MdW p sh (mset S r ys) := by
  obtain ⟨h1, h2, h3, h4, h5, h6⟩ := h
  refine ⟨h1, h2, h3, h4, h5, ?_⟩
  unfold mset; rw [putA_at]; exact mput_red h6 hy
theorem mg_red {p : Int} {sh : SH} {S : SS} {r : Int} (h : MdW p sh S) : Red p (mg S r) := mrow_red (by have := h.1.bd; omega) h.2.2.2.2.2
theorem mg_sup {S : SS} {r : Int} : Sup (mg S r) 80 := mrow_sup
theorem mg_at {S : SS} {r i k : Int} (hi : 0 ≤ i ∧ i < 80) (hk : k = 80 * r + i) : S.2.1 97 k = mg S r i := by
  unfold mg; rw [mrow_in hi, hk]
set_option maxRecDepth 100000 in
set_option maxHeartbeats 4000000 in
theorem c_X10_in {g : GC} {h : GA} {n : Nat} {v a b : Int} {Q : Option Value → GA → Nat → Prop} (hr : -2147483648 ≤ v ∧ v ≤ 2147483647 ∧ -2147483648 ≤ a ∧ a ≤ 2147483647 ∧ -2147483648 ≤ b ∧ b ≤ 2147483647) (h1 : a ≤ v ∧ v ≤ b → Q (some (.int (iI 1))) h n) (h0 : ¬ (a ≤ v ∧ v ≤ b) → Q (some (.int (iI 0))) h n) : GCall g mX10_in 1 0 0 [.int (iI v), .int (iI a), .int (iI b)] h n Q := by
  refine GCall.of (by decide) (Nat.le_of_ble_eq_true rfl) (ls := [(0, _), (1, _), (2, _)]) rfl ?_
  refine G_iload_n (pc := 0) dX10_in_0 rfl ?_
  refine G_iload_n (pc := 1) dX10_in_1 rfl ?_
  refine G_icmp_lt (pc := 2) 14 dX10_in_2 rfl (by omega) (fun c2 => ?_) (fun c2 => ?_)
  · skip
    refine G_iconst (pc := 14) dX10_in_14 ?_
    refine G_zret (pc := 15) dX10_in_15 rfl nar_z0 (by decide) ?_
    first | exact h1 (by omega) | exact h0 (by omega)
  · skip
    refine G_iload_n (pc := 5) dX10_in_5 rfl ?_
    refine G_iload_n (pc := 6) dX10_in_6 rfl ?_
    refine G_icmp_gt (pc := 7) 14 dX10_in_7 rfl (by omega) (fun c7 => ?_) (fun c7 => ?_)
    · skip
      refine G_iconst (pc := 14) dX10_in_14 ?_
      refine G_zret (pc := 15) dX10_in_15 rfl nar_z0 (by decide) ?_
      first | exact h1 (by omega) | exact h0 (by omega)
    · skip
      refine G_iconst (pc := 10) dX10_in_10 ?_
      refine G_goto (pc := 11) 15 dX10_in_11 rfl ?_
      refine G_zret (pc := 15) dX10_in_15 rfl nar_z1 (by decide) ?_
      first | exact h1 (by omega) | exact h0 (by omega)
set_option maxRecDepth 100000 in
set_option maxHeartbeats 4000000 in
theorem c_X10_isPoly {g : GC} {h : GA} {n : Nat} {v : Int} {Q : Option Value → GA → Nat → Prop} (hr : -2147483648 ≤ v ∧ v ≤ 2147483647) (h1 : 0 ≤ v ∧ v < 8 → Q (some (.int (iI 1))) h n) (h0 : ¬ (0 ≤ v ∧ v < 8) → Q (some (.int (iI 0))) h n) : GCall g mX10_isPoly 2 0 0 [.int (iI v)] h n Q := by
  refine GCall.of (by decide) (Nat.le_of_ble_eq_true rfl) (ls := [(0, _)]) rfl ?_
  refine G_iload_n (pc := 0) dX10_isPoly_0 rfl ?_
  refine G_iconst (pc := 1) dX10_isPoly_1 ?_
  refine G_bipush (pc := 2) dX10_isPoly_2 rfl ?_
  refine G_callS (pc := 4) (d2 := 1) (mc2 := 0) (ms2 := 0) (As := [_, _, _]) dX10_isPoly_4 kX10_in lkX10_86 rfl rfl (Nat.le_of_ble_eq_true rfl) ⟨by decide, by decide⟩ (by decide) ?_
  refine c_X10_in (by omega) (fun w4 => ?_) (fun w4 => ?_)
  · show G _ _ _ _ _ _ _ _ _ _ _ _ _
    refine G_zret (pc := 7) dX10_isPoly_7 rfl nar_z1 (by decide) ?_
    first | exact h1 (by omega) | exact h0 (by omega)
  · show G _ _ _ _ _ _ _ _ _ _ _ _ _
    refine G_zret (pc := 7) dX10_isPoly_7 rfl nar_z0 (by decide) ?_
    first | exact h1 (by omega) | exact h0 (by omega)
set_option maxRecDepth 100000 in
set_option maxHeartbeats 4000000 in
theorem c_X10_rest {g : GC} {p z : Int} {sh : SH} {S : SS} {n : Nat} {Q : Option Value → GA → Nat → Prop} (hW : MdW p sh S) (hz : -2147483648 ≤ z ∧ z ≤ 2147483647) (hq : Q (some (.int (iI (z % p)))) (hp g sh S) n) : GCall g mX10_rest 1 0 0 [gr g 96, .int (iI z)] (hp g sh S) n Q := by
  obtain ⟨hP, h96, hp1, p2, h97, hred⟩ := hW
  have hpb := hP.bd
  have ht := tm_bd (z := z) (p := p) (by omega)
  have he := tm_em (z := z) (p := p) (by omega)
  refine GCall.of (by decide) (Nat.le_of_ble_eq_true rfl) (ls := [(0, _), (1, _)]) rfl ?_
  refine G_iload_n (pc := 0) dX10_rest_0 rfl ?_
  refine S_aload_n (pc := 1) dX10_rest_1 rfl ?_
  refine S_getI (pc := 2) dX10_rest_2 fX10_64 (by assumption) rfl ?_
  rw [hp1]
  refine G_irem (pc := 5) dX10_rest_5 (by omega) ?_
  refine S_aload_n (pc := 6) dX10_rest_6 rfl ?_
  refine S_getI (pc := 7) dX10_rest_7 fX10_64 (by assumption) rfl ?_
  rw [hp1]
  refine G_iadd (pc := 10) dX10_rest_10 ?_
  refine S_aload_n (pc := 11) dX10_rest_11 rfl ?_
  refine S_getI (pc := 12) dX10_rest_12 fX10_64 (by assumption) rfl ?_
  rw [hp1]
  refine G_iremP (pc := 15) dX10_rest_15 (by omega) ?_
  refine G_iret (pc := 16) dX10_rest_16 rfl (by decide) ?_
  refine Q_i ?_ hq
  rw [he]
  by_cases hn : z.tmod p < 0
  · rw [if_pos hn, em_id (by omega)]
  · rw [if_neg hn, Int.add_emod_right, em_id (by omega)]
set_option maxRecDepth 100000 in
set_option maxHeartbeats 4000000 in
theorem l_X10_raised {g : GC} {p : Int} {sh : SH} {S : SS} {n : Nat} {x0 : Int} {Q : Option Value → GA → Nat → Prop} (hW : MdW p sh S) (hq : Q (some (.int (iI x0))) (hp g sh S) n) : ∀ (m : Nat) (l r s : Int), l ≤ m → 0 ≤ l ∧ l ≤ 2147483647 → 0 ≤ r ∧ r < p → 0 ≤ s ∧ s < p → r * s ^ l.toNat % p = x0 →
    G g mX10_raised 1 0 0 8 [(5, .int (iI l)), (4, .int (iI s)), (3, .int (iI r)), (0, gr g 96)] [] (hp g sh S) n 0 0 Q := by
  intro m
  obtain ⟨hP, h96, hp1, p2, h97, hred⟩ := hW
  have hpb := hP.bd
  induction m with
  | zero =>
    intro l r s hlm hl hrb hsb hi
    have e : l = 0 := by omega
    subst e
    rw [show (0 : Int).toNat = 0 from rfl, Int.pow_zero, Int.mul_one, em_id hrb] at hi
    refine G_iload (pc := 8) dX10_raised_8 rfl ?_
    refine G_if_le_t (pc := 10) 52 dX10_raised_10 rfl (by omega) (by omega) ?_
    refine G_iload_n (pc := 52) dX10_raised_52 rfl ?_
    refine G_iret (pc := 53) dX10_raised_53 rfl (by decide) ?_
    exact Q_i hi hq
  | succ m ih =>
    intro l r s hlm hl hrb hsb hi
    have em := em_bd (z := r * s) (p := p) (by omega)
    have em2 := em_bd (z := s * s) (p := p) (by omega)
    have m1 := mul_bd hrb hsb hpb.2
    have m2 := mul_bd hsb hsb hpb.2
    by_cases h0 : l = 0
    · subst h0
      exact ih 0 r s (by omega) hl hrb hsb hi
    refine G_iload (pc := 8) dX10_raised_8 rfl ?_
    refine G_if_le_f (pc := 10) 52 dX10_raised_10 rfl (by omega) (by omega) ?_
    refine G_iload (pc := 13) dX10_raised_13 rfl ?_
    refine G_iconst (pc := 15) dX10_raised_15 ?_
    refine G_iand (pc := 16) dX10_raised_16 (iI_and1 hl) ?_
    refine G_iconst (pc := 17) dX10_raised_17 ?_
    refine G_icmp_ne (pc := 18) 31 dX10_raised_18 rfl (by omega) (fun c18 => ?_) (fun c18 => ?_)
    · skip
      refine G_iload (pc := 31) dX10_raised_31 rfl ?_
      refine G_iload (pc := 33) dX10_raised_33 rfl ?_
      refine G_imul (pc := 35) dX10_raised_35 ?_
      refine S_aload_n (pc := 36) dX10_raised_36 rfl ?_
      refine S_getI (pc := 37) dX10_raised_37 fX10_64 (by assumption) rfl ?_
      rw [hp1]
      refine G_iremP (pc := 40) dX10_raised_40 (by omega) ?_
      refine G_istore (pc := 41) (ls' := [(4, _), (5, _), (3, _), (0, _)]) dX10_raised_41 (by decide) rfl ?_
      refine G_iload (pc := 43) dX10_raised_43 rfl ?_
      refine G_iconst (pc := 45) dX10_raised_45 ?_
      refine G_ishr (pc := 46) dX10_raised_46 (iI_shr1 hl) ?_
      refine G_istore (pc := 47) (ls' := [(5, _), (4, _), (3, _), (0, _)]) dX10_raised_47 (by decide) rfl ?_
      refine G_goto (pc := 49) 8 dX10_raised_49 rfl ?_
      first | exact ih (l / 2) _ _ (by omega) (by omega) em em2 (pw_odd hl.1 (by omega) hi) | exact ih (l / 2) _ _ (by omega) (by omega) hrb em2 (pw_even hl.1 (by omega) hi)
    · skip
      refine G_iload_n (pc := 21) dX10_raised_21 rfl ?_
      refine G_iload (pc := 22) dX10_raised_22 rfl ?_
      refine G_imul (pc := 24) dX10_raised_24 ?_
      refine S_aload_n (pc := 25) dX10_raised_25 rfl ?_
      refine S_getI (pc := 26) dX10_raised_26 fX10_64 (by assumption) rfl ?_
      rw [hp1]
      refine G_iremP (pc := 29) dX10_raised_29 (by omega) ?_
      refine G_istore_n (pc := 30) (ls' := [(3, _), (5, _), (4, _), (0, _)]) dX10_raised_30 (by decide) rfl ?_
      refine G_iload (pc := 31) dX10_raised_31 rfl ?_
      refine G_iload (pc := 33) dX10_raised_33 rfl ?_
      refine G_imul (pc := 35) dX10_raised_35 ?_
      refine S_aload_n (pc := 36) dX10_raised_36 rfl ?_
      refine S_getI (pc := 37) dX10_raised_37 fX10_64 (by assumption) rfl ?_
      rw [hp1]
      refine G_iremP (pc := 40) dX10_raised_40 (by omega) ?_
      refine G_istore (pc := 41) (ls' := [(4, _), (3, _), (5, _), (0, _)]) dX10_raised_41 (by decide) rfl ?_
      refine G_iload (pc := 43) dX10_raised_43 rfl ?_
      refine G_iconst (pc := 45) dX10_raised_45 ?_
      refine G_ishr (pc := 46) dX10_raised_46 (iI_shr1 hl) ?_
      refine G_istore (pc := 47) (ls' := [(5, _), (4, _), (3, _), (0, _)]) dX10_raised_47 (by decide) rfl ?_
      refine G_goto (pc := 49) 8 dX10_raised_49 rfl ?_
      first | exact ih (l / 2) _ _ (by omega) (by omega) em em2 (pw_odd hl.1 (by omega) hi) | exact ih (l / 2) _ _ (by omega) (by omega) hrb em2 (pw_even hl.1 (by omega) hi)
set_option maxRecDepth 100000 in
set_option maxHeartbeats 4000000 in
theorem c_X10_raised {g : GC} {p : Int} {sh : SH} {S : SS} {n : Nat} {x e : Int} {Q : Option Value → GA → Nat → Prop} (hW : MdW p sh S) (hx : 0 ≤ x ∧ x < p) (he : 0 ≤ e ∧ e ≤ 2147483647) (hq : Q (some (.int (iI (x ^ e.toNat % p)))) (hp g sh S) n) : GCall g mX10_raised 1 0 0 [gr g 96, .int (iI x), .int (iI e)] (hp g sh S) n Q := by
  have hpb := hW.1.bd
  refine GCall.of (by decide) (Nat.le_of_ble_eq_true rfl) (ls := [(0, _), (1, _), (2, _)]) rfl ?_
  refine G_iconst (pc := 0) dX10_raised_0 ?_
  refine G_istore_n (pc := 1) (ls' := [(3, _), (0, _), (1, _), (2, _)]) dX10_raised_1 (by decide) rfl ?_
  refine G_iload_n (pc := 2) dX10_raised_2 rfl ?_
  refine G_istore (pc := 3) (ls' := [(4, _), (3, _), (0, _), (1, _), (2, _)]) dX10_raised_3 (by decide) rfl ?_
  refine G_iload_n (pc := 5) dX10_raised_5 rfl ?_
  refine G_istore (pc := 6) (ls' := [(5, _), (4, _), (3, _), (0, _), (1, _), (2, _)]) dX10_raised_6 (by decide) rfl ?_
  refine G_ls (ls' := [(5, _), (4, _), (3, _), (0, _)]) (lsub_c rfl (lsub_c rfl (lsub_c rfl (lsub_c rfl lsub_n)))) ?_
  exact l_X10_raised hW hq e.toNat e 1 x (by omega) he (by omega) hx (by rw [Int.one_mul])
set_option maxRecDepth 100000 in
set_option maxHeartbeats 4000000 in
theorem c_X10_inverse {g : GC} {p : Int} {sh : SH} {S : SS} {n : Nat} {x : Int} {Q : Option Value → GA → Nat → Prop} (hW : MdW p sh S) (hx : 0 ≤ x ∧ x < p) (hq : Q (some (.int (iI (inv p x)))) (hp g sh S) n) : GCall g mX10_inverse 2 0 0 [gr g 96, .int (iI x)] (hp g sh S) n Q := by
  have hpb := hW.1.bd
  have h96 := hW.2.1
  have hp1 := hW.2.2.1
  refine GCall.of (by decide) (Nat.le_of_ble_eq_true rfl) (ls := [(0, _), (1, _)]) rfl ?_
  refine S_aload_n (pc := 0) dX10_inverse_0 rfl ?_
  refine G_iload_n (pc := 1) dX10_inverse_1 rfl ?_
  refine S_aload_n (pc := 2) dX10_inverse_2 rfl ?_
  refine S_getI (pc := 3) dX10_inverse_3 fX10_64 (by assumption) rfl ?_
  rw [hp1]
  refine G_iconst (pc := 6) dX10_inverse_6 ?_
  refine G_isub (pc := 7) dX10_inverse_7 ?_
  refine S_callV (pc := 8) (ci := 10) (d2 := 1) (mc2 := 0) (ms2 := 0) (As := [_, _]) dX10_inverse_8 kX10_raised lkX10_82 (by assumption) rfl rfl rfl (Nat.le_of_ble_eq_true rfl) ⟨by decide, by decide⟩ (by decide) ?_
  refine c_X10_raised hW hx (by omega) ?_
  show G _ _ _ _ _ _ _ _ _ _ _ _ _
  refine G_iret (pc := 11) dX10_inverse_11 rfl (by decide) ?_
  exact hq
set_option maxRecDepth 100000 in
set_option maxHeartbeats 4000000 in
theorem l_X10_length {g : GC} {p r : Int} {sh : SH} {S : SS} {n : Nat} {Q : Option Value → GA → Nat → Prop} (hW : MdW p sh S) (hr : 0 ≤ r ∧ r ≤ 15) (hq : Q (some (.int (iI (plen (mg S r) 80)))) (hp g sh S) n) : ∀ (m : Nat) (L : Int), L = m → L ≤ 80 → (∀ j : Int, L ≤ j → j < (80 : Nat) → mg S r j = 0) → G g mX10_length 1 0 0 3 [(2, .int (iI L)), (0, gr g 96), (1, .int (iI r))] [] (hp g sh S) n 0 0 Q := by
  intro m
  obtain ⟨hP, h96, hp1, p2, h97, hred⟩ := hW
  have hpb := hP.bd
  induction m with
  | zero =>
    intro L hL hLN hz
    rw [plen_eq (by omega) (by omega) hz (Or.inl (by omega))] at hq
    refine G_iload_n (pc := 3) dX10_length_3 rfl ?_
    refine G_if_le_t (pc := 4) 29 dX10_length_4 rfl (by omega) (by omega) ?_
    refine G_iload_n (pc := 29) dX10_length_29 rfl ?_
    refine G_iret (pc := 30) dX10_length_30 rfl (by decide) ?_
    exact hq
  | succ m ih =>
    intro L hL hLN hz
    have hx := hred (80 * r + L - 1)
    have e1 : S.2.1 97 (80 * r + L - 1) = mg S r (L - 1) := mg_at (by omega) (by omega)
    refine G_iload_n (pc := 3) dX10_length_3 rfl ?_
    refine G_if_le_f (pc := 4) 29 dX10_length_4 rfl (by omega) (by omega) ?_
    refine S_aload_n (pc := 7) dX10_length_7 rfl ?_
    refine S_getR (pc := 8) dX10_length_8 fX10_13 (by assumption) rfl (by assumption) ?_
    refine G_bipush (pc := 11) dX10_length_11 rfl ?_
    refine G_iload_n (pc := 13) dX10_length_13 rfl ?_
    refine G_imul (pc := 14) dX10_length_14 ?_
    refine G_iload_n (pc := 15) dX10_length_15 rfl ?_
    refine G_iadd (pc := 16) dX10_length_16 ?_
    refine G_iconst (pc := 17) dX10_length_17 ?_
    refine G_isub (pc := 18) dX10_length_18 ?_
    refine S_iald (pc := 19) dX10_length_19 (by assumption) (by omega) ?_
    refine G_if_ne (pc := 20) 29 dX10_length_20 rfl (by omega) (fun c20 => ?_) (fun c20 => ?_)
    · skip
      refine G_iload_n (pc := 29) dX10_length_29 rfl ?_
      refine G_iret (pc := 30) dX10_length_30 rfl (by decide) ?_
      rw [plen_eq (by omega) (by omega) hz (Or.inr (by omega))] at hq
      exact hq
    · skip
      refine G_iinc (pc := 23) (ls' := [(2, _), (0, _), (1, _)]) dX10_length_23 rfl (by decide) rfl ?_
      refine G_goto (pc := 26) 3 dX10_length_26 rfl ?_
      refine ih (L + -1) (by omega) (by omega) (fun j hj1 hj2 => ?_)
      by_cases hj : j = L - 1
      · rw [hj]; omega
      · exact hz j (by omega) hj2
set_option maxRecDepth 100000 in
set_option maxHeartbeats 4000000 in
theorem c_X10_length {g : GC} {p r : Int} {sh : SH} {S : SS} {n : Nat} {Q : Option Value → GA → Nat → Prop} (hW : MdW p sh S) (hr : 0 ≤ r ∧ r ≤ 15) (hq : Q (some (.int (iI (plen (mg S r) 80)))) (hp g sh S) n) : GCall g mX10_length 1 0 0 [gr g 96, .int (iI r)] (hp g sh S) n Q := by
  refine GCall.of (by decide) (Nat.le_of_ble_eq_true rfl) (ls := [(0, _), (1, _)]) rfl ?_
  refine G_bipush (pc := 0) dX10_length_0 rfl ?_
  refine G_istore_n (pc := 2) (ls' := [(2, _), (0, _), (1, _)]) dX10_length_2 (by decide) rfl ?_
  exact l_X10_length hW hr hq 80 80 (by omega) (by omega) (fun j h1 h2 => by omega)
set_option maxRecDepth 100000 in
set_option maxHeartbeats 4000000 in
theorem l_X10_empty {g : GC} {p r : Int} {sh : SH} {S : SS} {n : Nat} {Q : Option Value → GA → Nat → Prop} (hW : MdW p sh S) (hr : 0 ≤ r ∧ r ≤ 15) (hq : Q none (hp g sh (mset S r pz)) n) : ∀ (m : Nat) (i : Int), i + m = 80 → 0 ≤ i → G g mX10_empty 1 0 0 2 [(2, .int (iI i)), (0, gr g 96), (1, .int (iI r))] [] (hp g sh (mset S r (mix pz (mg S r) i))) n 0 0 Q := by
  intro m
  obtain ⟨hP, h96, hp1, p2, h97, hred⟩ := hW
  induction m with
  | zero =>
    intro i hi h0
    refine G_iload_n (pc := 2) dX10_empty_2 rfl ?_
    refine G_bipush (pc := 3) dX10_empty_3 rfl ?_
    refine G_icmp_ge_t (pc := 5) 26 dX10_empty_5 rfl (by omega) (by omega) ?_
    refine G_vret (pc := 26) dX10_empty_26 rfl (by decide) ?_
    refine Q_S ?_ hq
    rw [show i = (80 : Nat) by omega, mix_N mg_sup, show clip 80 pz = pz from funext fun j => by unfold clip pz; exact ite_self _]
  | succ m ih =>
    intro i hi h0
    refine G_iload_n (pc := 2) dX10_empty_2 rfl ?_
    refine G_bipush (pc := 3) dX10_empty_3 rfl ?_
    refine G_icmp_ge_f (pc := 5) 26 dX10_empty_5 rfl (by omega) (by omega) ?_
    refine S_aload_n (pc := 8) dX10_empty_8 rfl ?_
    refine S_getR (pc := 9) dX10_empty_9 fX10_13 (by assumption) rfl (by assumption) ?_
    refine G_bipush (pc := 12) dX10_empty_12 rfl ?_
    refine G_iload_n (pc := 14) dX10_empty_14 rfl ?_
    refine G_imul (pc := 15) dX10_empty_15 ?_
    refine G_iload_n (pc := 16) dX10_empty_16 rfl ?_
    refine G_iadd (pc := 17) dX10_empty_17 ?_
    refine G_iconst (pc := 18) dX10_empty_18 ?_
    refine S_iast (pc := 19) dX10_empty_19 (by assumption) (by omega) ?_
    refine G_iinc (pc := 20) (ls' := [(2, _), (0, _), (1, _)]) dX10_empty_20 rfl (by decide) rfl ?_
    refine G_goto (pc := 23) 2 dX10_empty_23 rfl ?_
    rw [mset_setA (by omega), show iup (mix pz (mg S r) i) i 0 = mix pz (mg S r) (i + 1) from mix_S h0]
    exact ih (i + 1) (by omega) (by omega)
set_option maxRecDepth 100000 in
set_option maxHeartbeats 4000000 in
theorem c_X10_empty {g : GC} {p r : Int} {sh : SH} {S : SS} {n : Nat} {Q : Option Value → GA → Nat → Prop} (hW : MdW p sh S) (hr : 0 ≤ r ∧ r ≤ 15) (hq : Q none (hp g sh (mset S r pz)) n) : GCall g mX10_empty 1 0 0 [gr g 96, .int (iI r)] (hp g sh S) n Q := by
  refine GCall.of (by decide) (Nat.le_of_ble_eq_true rfl) (ls := [(0, _), (1, _)]) rfl ?_
  refine G_iconst (pc := 0) dX10_empty_0 ?_
  refine G_istore_n (pc := 1) (ls' := [(2, _), (0, _), (1, _)]) dX10_empty_1 (by decide) rfl ?_
  have := l_X10_empty hW hr hq 80 0 (by omega) (by omega)
  rwa [mix_0, mset_self] at this
set_option maxRecDepth 100000 in
set_option maxHeartbeats 4000000 in
theorem l_X10_copy {g : GC} {p r s : Int} {sh : SH} {S : SS} {n : Nat} {Q : Option Value → GA → Nat → Prop} (hW : MdW p sh S) (hr : 0 ≤ r ∧ r ≤ 15) (hs : 0 ≤ s ∧ s ≤ 15) (hq : Q none (hp g sh (mset S s (mg S r))) n) : ∀ (m : Nat) (i : Int), i + m = 80 → 0 ≤ i → G g mX10_copy 1 0 0 2 [(3, .int (iI i)), (0, gr g 96), (1, .int (iI r)), (2, .int (iI s))] [] (hp g sh (mset S s (mix (mg S r) (mg S s) i))) n 0 0 Q := by
  intro m
  obtain ⟨hP, h96, hp1, p2, h97, hred⟩ := hW
  induction m with
  | zero =>
    intro i hi h0
    refine G_iload_n (pc := 2) dX10_copy_2 rfl ?_
    refine G_bipush (pc := 3) dX10_copy_3 rfl ?_
    refine G_icmp_ge_t (pc := 5) 36 dX10_copy_5 rfl (by omega) (by omega) ?_
    refine G_vret (pc := 36) dX10_copy_36 rfl (by decide) ?_
    refine Q_S ?_ hq
    rw [show i = (80 : Nat) by omega, mix_N mg_sup, clip_id mg_sup]
  | succ m ih =>
    intro i hi h0
    have e1 : (mset S s (mix (mg S r) (mg S s) i)).2.1 97 (80 * r + i) = mg S r i := by
      rw [mg_at (S := mset S s (mix (mg S r) (mg S s) i)) (r := r) (i := i) (by omega) rfl]
      by_cases hrs : r = s
      · rw [hrs, mg_set (mix_sup mg_sup (by omega))]
        unfold mix
        rw [if_neg (by omega)]
      · rw [mg_ne hrs]
    refine G_iload_n (pc := 2) dX10_copy_2 rfl ?_
    refine G_bipush (pc := 3) dX10_copy_3 rfl ?_
    refine G_icmp_ge_f (pc := 5) 36 dX10_copy_5 rfl (by omega) (by omega) ?_
    refine S_aload_n (pc := 8) dX10_copy_8 rfl ?_
    refine S_getR (pc := 9) dX10_copy_9 fX10_13 (by assumption) rfl (by assumption) ?_
    refine G_bipush (pc := 12) dX10_copy_12 rfl ?_
    refine G_iload_n (pc := 14) dX10_copy_14 rfl ?_
    refine G_imul (pc := 15) dX10_copy_15 ?_
    refine G_iload_n (pc := 16) dX10_copy_16 rfl ?_
    refine G_iadd (pc := 17) dX10_copy_17 ?_
    refine S_aload_n (pc := 18) dX10_copy_18 rfl ?_
    refine S_getR (pc := 19) dX10_copy_19 fX10_13 (by assumption) rfl (by assumption) ?_
    refine G_bipush (pc := 22) dX10_copy_22 rfl ?_
    refine G_iload_n (pc := 24) dX10_copy_24 rfl ?_
    refine G_imul (pc := 25) dX10_copy_25 ?_
    refine G_iload_n (pc := 26) dX10_copy_26 rfl ?_
    refine G_iadd (pc := 27) dX10_copy_27 ?_
    refine S_iald (pc := 28) dX10_copy_28 (by assumption) (by omega) ?_
    rw [e1]
    refine S_iast (pc := 29) dX10_copy_29 (by assumption) (by omega) ?_
    refine G_iinc (pc := 30) (ls' := [(3, _), (0, _), (1, _), (2, _)]) dX10_copy_30 rfl (by decide) rfl ?_
    refine G_goto (pc := 33) 2 dX10_copy_33 rfl ?_
    rw [mset_setA (by omega), show iup (mix (mg S r) (mg S s) i) i (mg S r i) = mix (mg S r) (mg S s) (i + 1) from mix_S h0]
    exact ih (i + 1) (by omega) (by omega)
set_option maxRecDepth 100000 in
set_option maxHeartbeats 4000000 in
theorem c_X10_copy {g : GC} {p r s : Int} {sh : SH} {S : SS} {n : Nat} {Q : Option Value → GA → Nat → Prop} (hW : MdW p sh S) (hr : 0 ≤ r ∧ r ≤ 15) (hs : 0 ≤ s ∧ s ≤ 15) (hq : Q none (hp g sh (mset S s (mg S r))) n) : GCall g mX10_copy 1 0 0 [gr g 96, .int (iI r), .int (iI s)] (hp g sh S) n Q := by
  refine GCall.of (by decide) (Nat.le_of_ble_eq_true rfl) (ls := [(0, _), (1, _), (2, _)]) rfl ?_
  refine G_iconst (pc := 0) dX10_copy_0 ?_
  refine G_istore_n (pc := 1) (ls' := [(3, _), (0, _), (1, _), (2, _)]) dX10_copy_1 (by decide) rfl ?_
  have := l_X10_copy hW hr hs hq 80 0 (by omega) (by omega)
  rwa [mix_0, mset_self] at this
set_option maxRecDepth 100000 in
set_option maxHeartbeats 4000000 in
/-- comes(to, from) -/
theorem c_X10_comes {g : GC} {p r s : Int} {sh : SH} {S : SS} {n : Nat} {Q : Option Value → GA → Nat → Prop} (hW : MdW p sh S) (hr : 0 ≤ r ∧ r ≤ 15) (hs : 0 ≤ s ∧ s ≤ 15) (hq : Q (some (.int (iI (plen (mg S r) 80)))) (hp g sh (mset S s (mg S r))) n) : GCall g mX10_comes 2 0 0 [gr g 96, .int (iI s), .int (iI r)] (hp g sh S) n Q := by
  have h96 := hW.2.1
  refine GCall.of (by decide) (Nat.le_of_ble_eq_true rfl) (ls := [(0, _), (1, _), (2, _)]) rfl ?_
  refine S_aload_n (pc := 0) dX10_comes_0 rfl ?_
  refine G_iload_n (pc := 1) dX10_comes_1 rfl ?_
  refine G_iload_n (pc := 2) dX10_comes_2 rfl ?_
  refine S_callV (pc := 3) (ci := 10) (d2 := 1) (mc2 := 0) (ms2 := 0) (As := [_, _]) dX10_comes_3 kX10_copy lkX10_90 (by assumption) rfl rfl rfl (Nat.le_of_ble_eq_true rfl) ⟨by decide, by decide⟩ (by decide) ?_
  refine c_X10_copy hW hr hs ?_
  show G _ _ _ _ _ _ _ _ _ _ _ _ _
  refine S_aload_n (pc := 6) dX10_comes_6 rfl ?_
  refine G_iload_n (pc := 7) dX10_comes_7 rfl ?_
  refine S_callV (pc := 8) (ci := 10) (d2 := 1) (mc2 := 0) (ms2 := 0) (As := [_]) dX10_comes_8 kX10_length lkX10_94 (by assumption) rfl rfl rfl (Nat.le_of_ble_eq_true rfl) ⟨by decide, by decide⟩ (by decide) ?_
  refine c_X10_length (MdW_set hW (mg_red hW)) hs ?_
  rw [mg_set mg_sup]
  show G _ _ _ _ _ _ _ _ _ _ _ _ _
  refine G_iret (pc := 11) dX10_comes_11 rfl (by decide) ?_
  exact hq
