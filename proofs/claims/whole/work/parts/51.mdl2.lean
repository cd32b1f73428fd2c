/-! the Model: multiply, divideRows, worth, moveRow, scale -/
/-- the product's numbers behind i rounds and j steps of the next -/
def pmp (p : Int) (A B : Int → Int) (i : Nat) (j : Int) : Int → Int := fun k => (csum (fun q => A q * B (k - q)) i + (if 0 ≤ k - i ∧ k - i < j then A i * B (k - i) else 0)) % p
theorem pmp_red {p : Int} {A B : Int → Int} {i : Nat} {j : Int} (hp : 0 < p) : Red p (pmp p A B i j) := fun _ => em_bd hp
theorem pmp_0 {p : Int} {A B : Int → Int} : pmp p A B 0 0 = pz := by
  funext k
  unfold pmp
  rw [if_neg (by omega)]
  show (0 + 0 : Int) % p = 0
  exact Int.zero_emod p
theorem pmp_S {p : Int} {A B : Int → Int} {i : Nat} {j : Int} (hj : 0 ≤ j) : iup (pmp p A B i j) (i + j) ((pmp p A B i j (i + j) + A i * B j) % p) = pmp p A B i (j + 1) := by
  funext k
  by_cases hk : k = i + j
  · rw [hk, iup_at]
    unfold pmp
    rw [if_neg (by omega), if_pos (by omega), Int.add_zero, em_add_l, show (i : Int) + j - i = j by omega]
  · rw [iup_ne hk]
    unfold pmp
    by_cases h : 0 ≤ k - i ∧ k - i < j
    · rw [if_pos h, if_pos (by omega)]
    · rw [if_neg h, if_neg (by omega)]
theorem pmp_N {p : Int} {A B : Int → Int} {i : Nat} {m : Int} (hB : ∀ j : Int, (j < 0 ∨ m ≤ j) → B j = 0) : pmp p A B i m = pmp p A B (i + 1) 0 := by
  funext k
  unfold pmp
  rw [if_neg (c := 0 ≤ k - ((i + 1 : Nat) : Int) ∧ k - ((i + 1 : Nat) : Int) < 0) (by omega), Int.add_zero, show csum (fun q => A q * B (k - q)) (i + 1) = csum (fun q => A q * B (k - q)) i + A i * B (k - i) from rfl]
  by_cases h : 0 ≤ k - i ∧ k - i < m
  · rw [if_pos h]
  · rw [if_neg h, hB (k - i) (by omega), Int.mul_zero]
theorem pmp_end {p : Int} {A B : Int → Int} {n : Nat} (hA : ∀ j : Int, n ≤ j → A j = 0) (hB : ∀ j : Int, j < 0 → B j = 0) : pmp p A B n 0 = pmul p A B := by
  funext k
  unfold pmp pmul conv
  rw [if_neg (by omega), Int.add_zero]
  by_cases h : (k + 1).toNat ≤ n
  · rw [csum_more h (fun j h1 h2 => by show A j * B (k - j) = 0; rw [hB (k - j) (by omega), Int.mul_zero])]
  · rw [csum_more (m := n) (n := (k + 1).toNat) (by omega) (fun j h1 h2 => by show A j * B (k - j) = 0; rw [hA j h1, Int.zero_mul])]
theorem pmp_sup {p : Int} {A B : Int → Int} {i : Nat} {j : Int} (hA : ∀ q : Int, (q < 0 ∨ 80 ≤ q) → A q = 0) (hB : ∀ q : Int, (q < 0 ∨ 80 ≤ q) → B q = 0) (h1 : ∀ q k : Int, k < 0 ∨ 80 ≤ k → A q * B (k - q) = 0) : Sup (pmp p A B i j) 80 := fun k hk => by
  unfold pmp
  rw [csum_zero (fun q _ _ => h1 q k hk)]
  by_cases h : 0 ≤ k - i ∧ k - i < j
  · rw [if_pos h, h1 i k hk]; exact Int.zero_emod p
  · rw [if_neg h]; exact Int.zero_emod p
set_option maxRecDepth 100000 in
set_option maxHeartbeats 4000000 in
theorem l_X10_multiplyI {g : GC} {p a b t N M : Int} {i : Nat} {sh : SH} {S : SS} {n : Nat} {Q : Option Value → GA → Nat → Prop} (hW : MdW p sh S) (ha : 0 ≤ a ∧ a ≤ 15) (hb : 0 ≤ b ∧ b ≤ 15) (ht : 0 ≤ t ∧ t ≤ 15) (hat : a ≠ t) (hbt : b ≠ t) (hM : M = plen (mg S b) 80) (hi : i < N) (hNM : N + M ≤ 81) (hsup : ∀ j : Int, Sup (pmp p (mg S a) (mg S b) i j) 80) (hN80 : N ≤ 80)
    (K : G g mX10_multiply 2 0 0 106 [(6, .int (iI i)), (5, .int (iI M)), (4, .int (iI N)), (0, gr g 96), (1, .int (iI a)), (2, .int (iI b)), (3, .int (iI t))] [] (hp g sh (mset S t (pmp p (mg S a) (mg S b) (i + 1) 0))) n 0 0 Q) : ∀ (k : Nat) (j : Int), j + k = M → 0 ≤ j → G g mX10_multiply 2 0 0 32 [(7, .int (iI j)), (6, .int (iI i)), (5, .int (iI M)), (4, .int (iI N)), (0, gr g 96), (1, .int (iI a)), (2, .int (iI b)), (3, .int (iI t))] [] (hp g sh (mset S t (pmp p (mg S a) (mg S b) i j))) n 0 0 Q := by
  intro k
  have hbM := plen_bd (mg S b) 80
  have hW' := hW
  obtain ⟨hP, h96, hp1, p2, h97, hred⟩ := hW'
  have hpb := hP.bd
  induction k with
  | zero =>
    intro j hj h0
    refine G_iload (pc := 32) dX10_multiply_32 rfl ?_
    refine G_iload (pc := 34) dX10_multiply_34 rfl ?_
    refine G_icmp_ge_t (pc := 36) 106 dX10_multiply_36 rfl (by omega) (by omega) ?_
    refine G_ls (ls' := [(6, _), (5, _), (4, _), (0, _), (1, _), (2, _), (3, _)]) (lsub_c rfl (lsub_c rfl (lsub_c rfl (lsub_c rfl (lsub_c rfl (lsub_c rfl (lsub_c rfl lsub_n))))))) ?_
    rw [show j = M by omega, pmp_N (fun q hq => hq.elim (fun h => mg_sup q (Or.inl h)) (fun h => Sup_len mg_sup (by omega)))]
    exact K
  | succ k ih =>
    intro j hj h0
    have e1 : (mset S t (pmp p (mg S a) (mg S b) i j)).2.1 97 (80 * t + i + j) = pmp p (mg S a) (mg S b) i j (i + j) := by rw [mg_at (r := t) (i := i + j) (by omega) (by omega), mg_set (hsup j)]
    have e2 : (mset S t (pmp p (mg S a) (mg S b) i j)).2.1 97 (80 * a + i) = mg S a i := by rw [mg_at (r := a) (i := i) (by omega) (by omega), mg_ne hat]
    have e3 : (mset S t (pmp p (mg S a) (mg S b) i j)).2.1 97 (80 * b + j) = mg S b j := by rw [mg_at (r := b) (i := j) (by omega) (by omega), mg_ne hbt]
    have e4 : (mset S t (pmp p (mg S a) (mg S b) i j)).1 96 1 = p := hp1
    have hx := pmp_red (p := p) (A := mg S a) (B := mg S b) (i := i) (j := j) (by omega) (i + j)
    have hmm := mul_bd (mg_red (r := a) hW i) (mg_red (r := b) hW j) hpb.2
    refine G_iload (pc := 32) dX10_multiply_32 rfl ?_
    refine G_iload (pc := 34) dX10_multiply_34 rfl ?_
    refine G_icmp_ge_f (pc := 36) 106 dX10_multiply_36 rfl (by omega) (by omega) ?_
    refine S_aload_n (pc := 39) dX10_multiply_39 rfl ?_
    refine S_getR (pc := 40) dX10_multiply_40 fX10_13 (by assumption) rfl (by assumption) ?_
    refine G_bipush (pc := 43) dX10_multiply_43 rfl ?_
    refine G_iload_n (pc := 45) dX10_multiply_45 rfl ?_
    refine G_imul (pc := 46) dX10_multiply_46 ?_
    refine G_iload (pc := 47) dX10_multiply_47 rfl ?_
    refine G_iadd (pc := 49) dX10_multiply_49 ?_
    refine G_iload (pc := 50) dX10_multiply_50 rfl ?_
    refine G_iadd (pc := 52) dX10_multiply_52 ?_
    refine S_aload_n (pc := 53) dX10_multiply_53 rfl ?_
    refine S_getR (pc := 54) dX10_multiply_54 fX10_13 (by assumption) rfl (by assumption) ?_
    refine G_bipush (pc := 57) dX10_multiply_57 rfl ?_
    refine G_iload_n (pc := 59) dX10_multiply_59 rfl ?_
    refine G_imul (pc := 60) dX10_multiply_60 ?_
    refine G_iload (pc := 61) dX10_multiply_61 rfl ?_
    refine G_iadd (pc := 63) dX10_multiply_63 ?_
    refine G_iload (pc := 64) dX10_multiply_64 rfl ?_
    refine G_iadd (pc := 66) dX10_multiply_66 ?_
    refine S_iald (pc := 67) dX10_multiply_67 (by assumption) (by omega) ?_
    rw [e1]
    refine S_aload_n (pc := 68) dX10_multiply_68 rfl ?_
    refine S_getR (pc := 69) dX10_multiply_69 fX10_13 (by assumption) rfl (by assumption) ?_
    refine G_bipush (pc := 72) dX10_multiply_72 rfl ?_
    refine G_iload_n (pc := 74) dX10_multiply_74 rfl ?_
    refine G_imul (pc := 75) dX10_multiply_75 ?_
    refine G_iload (pc := 76) dX10_multiply_76 rfl ?_
    refine G_iadd (pc := 78) dX10_multiply_78 ?_
    refine S_iald (pc := 79) dX10_multiply_79 (by assumption) (by omega) ?_
    rw [e2]
    refine S_aload_n (pc := 80) dX10_multiply_80 rfl ?_
    refine S_getR (pc := 81) dX10_multiply_81 fX10_13 (by assumption) rfl (by assumption) ?_
    refine G_bipush (pc := 84) dX10_multiply_84 rfl ?_
    refine G_iload_n (pc := 86) dX10_multiply_86 rfl ?_
    refine G_imul (pc := 87) dX10_multiply_87 ?_
    refine G_iload (pc := 88) dX10_multiply_88 rfl ?_
    refine G_iadd (pc := 90) dX10_multiply_90 ?_
    refine S_iald (pc := 91) dX10_multiply_91 (by assumption) (by omega) ?_
    rw [e3]
    refine G_imul (pc := 92) dX10_multiply_92 ?_
    refine G_iadd (pc := 93) dX10_multiply_93 ?_
    refine S_aload_n (pc := 94) dX10_multiply_94 rfl ?_
    refine S_getI (pc := 95) dX10_multiply_95 fX10_64 (by assumption) rfl ?_
    rw [e4]
    refine G_iremP (pc := 98) dX10_multiply_98 (by omega) ?_
    refine S_iast (pc := 99) dX10_multiply_99 (by assumption) (by omega) ?_
    refine G_iinc (pc := 100) (ls' := [(7, _), (6, _), (5, _), (4, _), (0, _), (1, _), (2, _), (3, _)]) dX10_multiply_100 rfl (by decide) rfl ?_
    refine G_goto (pc := 103) 32 dX10_multiply_103 rfl ?_
    rw [show 80 * t + (i : Int) + j = 80 * t + (i + j) by omega, mset_setA (by omega), pmp_S h0]
    exact ih (j + 1) (by omega) (by omega)
set_option maxRecDepth 100000 in
set_option maxHeartbeats 4000000 in
theorem l_X10_multiply {g : GC} {p a b t N M : Int} {sh : SH} {S : SS} {n : Nat} {Q : Option Value → GA → Nat → Prop} (hW : MdW p sh S) (ha : 0 ≤ a ∧ a ≤ 15) (hb : 0 ≤ b ∧ b ≤ 15) (ht : 0 ≤ t ∧ t ≤ 15) (hat : a ≠ t) (hbt : b ≠ t) (hN : N = plen (mg S a) 80) (hM : M = plen (mg S b) 80) (hNM : N + M ≤ 81) (hq : Q none (hp g sh (mset S t (pmul p (mg S a) (mg S b)))) n) : ∀ (k i : Nat), i + k = N → G g mX10_multiply 2 0 0 22 [(6, .int (iI i)), (5, .int (iI M)), (4, .int (iI N)), (0, gr g 96), (1, .int (iI a)), (2, .int (iI b)), (3, .int (iI t))] [] (hp g sh (mset S t (pmp p (mg S a) (mg S b) i 0))) n 0 0 Q := by
  have hbN := plen_bd (mg S a) 80
  have hbM := plen_bd (mg S b) 80
  have haz : ∀ q : Int, (q < 0 ∨ N ≤ q) → mg S a q = 0 := fun q hq => hq.elim (fun h => mg_sup q (Or.inl h)) (fun h => Sup_len mg_sup (by omega))
  have hbz : ∀ q : Int, (q < 0 ∨ M ≤ q) → mg S b q = 0 := fun q hq => hq.elim (fun h => mg_sup q (Or.inl h)) (fun h => Sup_len mg_sup (by omega))
  have hsup : ∀ (i : Nat) (j : Int), Sup (pmp p (mg S a) (mg S b) i j) 80 := fun i j => pmp_sup (fun q hq => mg_sup q hq) (fun q hq => mg_sup q hq) (fun q k hk => by
    by_cases h1 : q < 0 ∨ N ≤ q
    · rw [haz q h1, Int.zero_mul]
    · rw [hbz (k - q) (by omega), Int.mul_zero])
  intro k
  have hW' := hW
  obtain ⟨hP, h96, hp1, p2, h97, hred⟩ := hW'
  induction k with
  | zero =>
    intro i hi
    refine G_iload (pc := 22) dX10_multiply_22 rfl ?_
    refine G_iload (pc := 24) dX10_multiply_24 rfl ?_
    refine G_icmp_ge_t (pc := 26) 112 dX10_multiply_26 rfl (by omega) (by omega) ?_
    refine G_vret (pc := 112) dX10_multiply_112 rfl (by decide) ?_
    refine Q_S ?_ hq
    rw [pmp_end (fun j hj => haz j (by omega)) (fun j hj => hbz j (Or.inl hj))]
  | succ k ih =>
    intro i hi
    have K : G g mX10_multiply 2 0 0 106 [(6, .int (iI i)), (5, .int (iI M)), (4, .int (iI N)), (0, gr g 96), (1, .int (iI a)), (2, .int (iI b)), (3, .int (iI t))] [] (hp g sh (mset S t (pmp p (mg S a) (mg S b) (i + 1) 0))) n 0 0 Q := by
      refine G_iinc (pc := 106) (ls' := [(6, _), (5, _), (4, _), (0, _), (1, _), (2, _), (3, _)]) dX10_multiply_106 rfl (by decide) rfl ?_
      refine G_goto (pc := 109) 22 dX10_multiply_109 rfl ?_
      exact ih (i + 1) (by omega)
    refine G_iload (pc := 22) dX10_multiply_22 rfl ?_
    refine G_iload (pc := 24) dX10_multiply_24 rfl ?_
    refine G_icmp_ge_f (pc := 26) 112 dX10_multiply_26 rfl (by omega) (by omega) ?_
    refine G_iconst (pc := 29) dX10_multiply_29 ?_
    refine G_istore (pc := 30) (ls' := [(7, _), (6, _), (5, _), (4, _), (0, _), (1, _), (2, _), (3, _)]) dX10_multiply_30 (by decide) rfl ?_
    exact l_X10_multiplyI hW ha hb ht hat hbt hM (by omega) hNM (hsup i) (by omega) K M.toNat 0 (by omega) (by omega)
set_option maxRecDepth 100000 in
set_option maxHeartbeats 4000000 in
theorem c_X10_multiply {g : GC} {p a b t : Int} {sh : SH} {S : SS} {n : Nat} {Q : Option Value → GA → Nat → Prop} (hW : MdW p sh S) (ha : 0 ≤ a ∧ a ≤ 15) (hb : 0 ≤ b ∧ b ≤ 15) (ht : 0 ≤ t ∧ t ≤ 15) (hat : a ≠ t) (hbt : b ≠ t) (hNM : plen (mg S a) 80 + plen (mg S b) 80 ≤ 81) (hq : Q none (hp g sh (mset S t (pmul p (mg S a) (mg S b)))) n) : GCall g mX10_multiply 2 0 0 [gr g 96, .int (iI a), .int (iI b), .int (iI t)] (hp g sh S) n Q := by
  have h96 := hW.2.1
  have hbN := plen_bd (mg S a) 80
  have hpb := hW.1.bd
  refine GCall.of (by decide) (Nat.le_of_ble_eq_true rfl) (ls := [(0, _), (1, _), (2, _), (3, _)]) rfl ?_
  refine S_aload_n (pc := 0) dX10_multiply_0 rfl ?_
  refine G_iload_n (pc := 1) dX10_multiply_1 rfl ?_
  refine S_callV (pc := 2) (ci := 10) (d2 := 1) (mc2 := 0) (ms2 := 0) (As := [_]) dX10_multiply_2 kX10_empty lkX10_105 (by assumption) rfl rfl rfl (Nat.le_of_ble_eq_true rfl) ⟨by decide, by decide⟩ (by decide) ?_
  refine c_X10_empty hW ht ?_
  show G _ _ _ _ _ _ _ _ _ _ _ _ _
  refine S_aload_n (pc := 5) dX10_multiply_5 rfl ?_
  refine G_iload_n (pc := 6) dX10_multiply_6 rfl ?_
  refine S_callV (pc := 7) (ci := 10) (d2 := 1) (mc2 := 0) (ms2 := 0) (As := [_]) dX10_multiply_7 kX10_length lkX10_94 (by assumption) rfl rfl rfl (Nat.le_of_ble_eq_true rfl) ⟨by decide, by decide⟩ (by decide) ?_
  refine c_X10_length (MdW_set hW (Red_pz (by omega))) ha ?_
  rw [mg_ne hat]
  show G _ _ _ _ _ _ _ _ _ _ _ _ _
  refine G_istore (pc := 10) (ls' := [(4, _), (0, _), (1, _), (2, _), (3, _)]) dX10_multiply_10 (by decide) rfl ?_
  refine S_aload_n (pc := 12) dX10_multiply_12 rfl ?_
  refine G_iload_n (pc := 13) dX10_multiply_13 rfl ?_
  refine S_callV (pc := 14) (ci := 10) (d2 := 1) (mc2 := 0) (ms2 := 0) (As := [_]) dX10_multiply_14 kX10_length lkX10_94 (by assumption) rfl rfl rfl (Nat.le_of_ble_eq_true rfl) ⟨by decide, by decide⟩ (by decide) ?_
  refine c_X10_length (MdW_set hW (Red_pz (by omega))) hb ?_
  rw [mg_ne hbt]
  show G _ _ _ _ _ _ _ _ _ _ _ _ _
  refine G_istore (pc := 17) (ls' := [(5, _), (4, _), (0, _), (1, _), (2, _), (3, _)]) dX10_multiply_17 (by decide) rfl ?_
  refine G_iconst (pc := 19) dX10_multiply_19 ?_
  refine G_istore (pc := 20) (ls' := [(6, _), (5, _), (4, _), (0, _), (1, _), (2, _), (3, _)]) dX10_multiply_20 (by decide) rfl ?_
  have := l_X10_multiply hW ha hb ht hat hbt rfl rfl hNM hq (plen (mg S a) 80).toNat 0 (by omega)
  rw [pmp_0] at this
  exact this
theorem DivI_mono {p : Int} {xa xb q r : Int → Int} {la m i i' : Int} (h : DivI p xa xb q r la m i) (hi : i' ≤ i) (hz : ∀ j : Int, i' + m ≤ j → r j = 0) : DivI p xa xb q r la m i' :=
  ⟨h.1, h.2.1, h.2.2.1, fun j hj => hj.elim (fun h1 => h.2.2.2.1 j (Or.inl h1)) (fun h1 => hz j h1), fun j hj => h.2.2.2.2 j (by omega)⟩
set_option maxRecDepth 100000 in
set_option maxHeartbeats 4000000 in
theorem l_X10_divideI {g : GC} {p a b q N m f by_ : Int} {sh : SH} {S : SS} {n : Nat} {xb r qq : Int → Int} {Q : Option Value → GA → Nat → Prop} (hW : MdW p sh S) (ha : 0 ≤ a ∧ a ≤ 15) (hb : 0 ≤ b ∧ b ≤ 15) (hq15 : 0 ≤ q ∧ q ≤ 15) (hab : b ≠ a) (haq : a ≠ q) (hbq : b ≠ q) (hxb : xb = mg S b) (hm : 0 < m ∧ m ≤ N) (hN : N ≤ 80) (hf : 0 ≤ f ∧ f < p) (hbz : ∀ j : Int, (j < 0 ∨ m ≤ j) → xb j = 0) (hr : Sup r 80) (hrr : Red p r) (hqs : Sup qq 80) (hqr : Red p qq)
    (K : G g mX10_divideRows 4 0 0 159 [(7, .int (iI f)), (6, .int (iI N)), (5, .int (iI by_)), (4, .int (iI m)), (0, gr g 96), (1, .int (iI a)), (2, .int (iI b)), (3, .int (iI q))] [] (hp g sh (mset (mset S q qq) a (padd p r (-f) xb (N - m)))) n 0 0 Q) : ∀ (k : Nat) (t : Int), t + k = m → 0 ≤ t → G g mX10_divideRows 4 0 0 90 [(8, .int (iI t)), (7, .int (iI f)), (6, .int (iI N)), (5, .int (iI by_)), (4, .int (iI m)), (0, gr g 96), (1, .int (iI a)), (2, .int (iI b)), (3, .int (iI q))] [] (hp g sh (mset (mset S q qq) a (seg (N - m) (N - m + t) (padd p r (-f) xb (N - m)) r))) n 0 0 Q := by
  intro k
  have hW' := hW
  obtain ⟨hP, h96, hp1, p2, h97, hred⟩ := hW'
  have hpb := hP.bd
  induction k with
  | zero =>
    intro t ht h0
    refine G_iload (pc := 90) dX10_divideRows_90 rfl ?_
    refine G_iload (pc := 92) dX10_divideRows_92 rfl ?_
    refine G_icmp_ge_t (pc := 94) 159 dX10_divideRows_94 rfl (by omega) (by omega) ?_
    refine G_ls (ls' := [(7, _), (6, _), (5, _), (4, _), (0, _), (1, _), (2, _), (3, _)]) (lsub_c rfl (lsub_c rfl (lsub_c rfl (lsub_c rfl (lsub_c rfl (lsub_c rfl (lsub_c rfl (lsub_c rfl lsub_n)))))))) ?_
    rw [seg_all (fun j hj => padd_out hrr (hbz _ (by omega)))]
    exact K
  | succ k ih =>
    intro t ht h0
    have hsr : Red p (seg (N - m) (N - m + t) (padd p r (-f) xb (N - m)) r) := seg_red (padd_red (by omega)) hrr
    have hss : Sup (seg (N - m) (N - m + t) (padd p r (-f) xb (N - m)) r) 80 := seg_sup hr (by omega) (by omega)
    have hW2 : MdW p sh (mset (mset S q qq) a (seg (N - m) (N - m + t) (padd p r (-f) xb (N - m)) r)) := MdW_set (MdW_set hW hqr) hsr
    have e1 : (mset (mset S q qq) a (seg (N - m) (N - m + t) (padd p r (-f) xb (N - m)) r)).2.1 97 (80 * a + N - m + t) = r (N - m + t) := by
      rw [mg_at (r := a) (i := N - m + t) (by omega) (by omega), mg_set hss]
      exact seg_out (by omega)
    have e2 : (mset (mset S q qq) a (seg (N - m) (N - m + t) (padd p r (-f) xb (N - m)) r)).2.1 97 (80 * b + t) = xb t := by rw [mg_at (r := b) (i := t) (by omega) (by omega), mg_ne hab, mg_ne hbq, hxb]
    have hx := hrr (N - m + t)
    have hb1 : 0 ≤ xb t ∧ xb t < p := by rw [hxb]; exact mg_red hW t
    have hmm := mul_bd hf hb1 hpb.2
    have hem := em_bd (z := r (N - m + t) - f * xb t) (p := p) (by omega)
    have e3 : (r (N - m + t) - f * xb t) % p = padd p r (-f) xb (N - m) (N - m + t) := by
      unfold padd
      rw [show N - m + t - (N - m) = t by omega, Int.neg_mul, Int.sub_eq_add_neg]
    refine G_iload (pc := 90) dX10_divideRows_90 rfl ?_
    refine G_iload (pc := 92) dX10_divideRows_92 rfl ?_
    refine G_icmp_ge_f (pc := 94) 159 dX10_divideRows_94 rfl (by omega) (by omega) ?_
    refine S_aload_n (pc := 97) dX10_divideRows_97 rfl ?_
    refine S_getR (pc := 98) dX10_divideRows_98 fX10_13 (by assumption) rfl (by assumption) ?_
    refine G_bipush (pc := 101) dX10_divideRows_101 rfl ?_
    refine G_iload_n (pc := 103) dX10_divideRows_103 rfl ?_
    refine G_imul (pc := 104) dX10_divideRows_104 ?_
    refine G_iload (pc := 105) dX10_divideRows_105 rfl ?_
    refine G_iadd (pc := 107) dX10_divideRows_107 ?_
    refine G_iload (pc := 108) dX10_divideRows_108 rfl ?_
    refine G_isub (pc := 110) dX10_divideRows_110 ?_
    refine G_iload (pc := 111) dX10_divideRows_111 rfl ?_
    refine G_iadd (pc := 113) dX10_divideRows_113 ?_
    refine S_aload_n (pc := 114) dX10_divideRows_114 rfl ?_
    refine S_aload_n (pc := 115) dX10_divideRows_115 rfl ?_
    refine S_getR (pc := 116) dX10_divideRows_116 fX10_13 (by assumption) rfl (by assumption) ?_
    refine G_bipush (pc := 119) dX10_divideRows_119 rfl ?_
    refine G_iload_n (pc := 121) dX10_divideRows_121 rfl ?_
    refine G_imul (pc := 122) dX10_divideRows_122 ?_
    refine G_iload (pc := 123) dX10_divideRows_123 rfl ?_
    refine G_iadd (pc := 125) dX10_divideRows_125 ?_
    refine G_iload (pc := 126) dX10_divideRows_126 rfl ?_
    refine G_isub (pc := 128) dX10_divideRows_128 ?_
    refine G_iload (pc := 129) dX10_divideRows_129 rfl ?_
    refine G_iadd (pc := 131) dX10_divideRows_131 ?_
    refine S_iald (pc := 132) dX10_divideRows_132 (by assumption) (by omega) ?_
    rw [e1]
    refine G_iload (pc := 133) dX10_divideRows_133 rfl ?_
    refine S_aload_n (pc := 135) dX10_divideRows_135 rfl ?_
    refine S_getR (pc := 136) dX10_divideRows_136 fX10_13 (by assumption) rfl (by assumption) ?_
    refine G_bipush (pc := 139) dX10_divideRows_139 rfl ?_
    refine G_iload_n (pc := 141) dX10_divideRows_141 rfl ?_
    refine G_imul (pc := 142) dX10_divideRows_142 ?_
    refine G_iload (pc := 143) dX10_divideRows_143 rfl ?_
    refine G_iadd (pc := 145) dX10_divideRows_145 ?_
    refine S_iald (pc := 146) dX10_divideRows_146 (by assumption) (by omega) ?_
    rw [e2]
    refine G_imul (pc := 147) dX10_divideRows_147 ?_
    refine G_isub (pc := 148) dX10_divideRows_148 ?_
    refine S_callV (pc := 149) (ci := 10) (d2 := 1) (mc2 := 0) (ms2 := 0) (As := [_]) dX10_divideRows_149 kX10_rest lkX10_102 (by assumption) rfl rfl rfl (Nat.le_of_ble_eq_true rfl) ⟨by decide, by decide⟩ (by decide) ?_
    refine c_X10_rest hW2 (by omega) ?_
    show G _ _ _ _ _ _ _ _ _ _ _ _ _
    refine S_iast (pc := 152) dX10_divideRows_152 (by assumption) (by omega) ?_
    refine G_iinc (pc := 153) (ls' := [(8, _), (7, _), (6, _), (5, _), (4, _), (0, _), (1, _), (2, _), (3, _)]) dX10_divideRows_153 rfl (by decide) rfl ?_
    refine G_goto (pc := 156) 90 dX10_divideRows_156 rfl ?_
    rw [show 80 * a + N - m + t = 80 * a + (N - m + t) by omega, mset_setA (by omega), e3, seg_S (by omega), show N - m + t + 1 = N - m + (t + 1) by omega]
    exact ih (t + 1) (by omega) (by omega)
set_option maxRecDepth 100000 in
set_option maxHeartbeats 4000000 in
theorem l_X10_divideRows {g : GC} {p a b q m by_ : Int} {sh : SH} {S : SS} {n : Nat} {xa xb : Int → Int} {Q : Option Value → GA → Nat → Prop} (hW : MdW p sh S) (ha : 0 ≤ a ∧ a ≤ 15) (hb : 0 ≤ b ∧ b ≤ 15) (hq15 : 0 ≤ q ∧ q ≤ 15) (hab : b ≠ a) (haq : a ≠ q) (hbq : b ≠ q) (hxa : xa = mg S a) (hxb : xb = mg S b) (hm : m = plen xb 80) (hm0 : 0 < m) (hby : by_ = inv p (xb (m - 1)))
    (hq : ∀ qq r : Int → Int, DivS p xa xb qq r (plen xa 80) m → Q none (hp g sh (mset (mset S q qq) a r)) n) : ∀ (k : Nat) (N : Int) (qq r : Int → Int), N ≤ k → N = plen r 80 → N ≤ plen xa 80 → Sup r 80 → DivI p xa xb qq r (plen xa 80) m (N - m) →
    G g mX10_divideRows 4 0 0 39 [(6, .int (iI N)), (5, .int (iI by_)), (4, .int (iI m)), (0, gr g 96), (1, .int (iI a)), (2, .int (iI b)), (3, .int (iI q))] [] (hp g sh (mset (mset S q qq) a r)) n 0 0 Q := by
  intro k
  have hW' := hW
  obtain ⟨hP, h96, hp1, p2, h97, hred⟩ := hW'
  have hpb := hP.bd
  have hba := plen_bd xa 80
  have hbb := plen_bd xb 80
  have hxbr : Red p xb := by rw [hxb]; exact mg_red hW
  have hxbs : Sup xb 80 := by rw [hxb]; exact mg_sup
  have hbz : ∀ j : Int, (j < 0 ∨ m ≤ j) → xb j = 0 := fun j hj => hj.elim (fun h => hxbs j (Or.inl h)) (fun h => Sup_len hxbs (by omega))
  have hbl : xb (m - 1) ≠ 0 := by rw [hm]; exact plen_lead (by omega)
  have hfin : ∀ (N : Int) (qq r : Int → Int), N < m → N = plen r 80 → Sup r 80 → DivI p xa xb qq r (plen xa 80) m (N - m) → DivS p xa xb qq r (plen xa 80) m := fun N qq r h1 h2 h3 hI => ⟨hI.1, hI.2.1, hI.2.2.1, fun j hj => hI.2.2.2.1 j (by omega), fun j hj => hI.2.2.2.2 j (by omega)⟩
  induction k with
  | zero =>
    intro N qq r hk hN hNa hr hI
    have hbr := plen_bd r 80
    refine G_iload (pc := 39) dX10_divideRows_39 rfl ?_
    refine G_iload (pc := 41) dX10_divideRows_41 rfl ?_
    refine G_icmp_lt_t (pc := 43) 169 dX10_divideRows_43 rfl (by omega) (by omega) ?_
    refine G_vret (pc := 169) dX10_divideRows_169 rfl (by decide) ?_
    exact hq qq r (hfin N qq r (by omega) hN hr hI)
  | succ k ih =>
    intro N qq r hk hN hNa hr hI
    have hbr := plen_bd r 80
    by_cases hc : N < m
    · skip
      refine G_iload (pc := 39) dX10_divideRows_39 rfl ?_
      refine G_iload (pc := 41) dX10_divideRows_41 rfl ?_
      refine G_icmp_lt_t (pc := 43) 169 dX10_divideRows_43 rfl (by omega) (by omega) ?_
      refine G_vret (pc := 169) dX10_divideRows_169 rfl (by decide) ?_
      exact hq qq r (hfin N qq r (by omega) hN hr hI)
    · have hrr := hI.2.1
      have hqs : Sup qq 80 := fun j hj => hI.2.2.2.2 j (by omega)
      have hem := em_bd (z := r (N - 1) * inv p (xb (m - 1))) (p := p) (by omega)
      have hx := hrr (N - 1)
      have hib := inv_bd (x := xb (m - 1)) hP
      have hmm := mul_bd hx hib hpb.2
      have e1 : (mset (mset S q qq) a r).2.1 97 (80 * a + N - 1) = r (N - 1) := by rw [mg_at (r := a) (i := N - 1) (by omega) (by omega), mg_set hr]
      have e2 : (mset (mset S q qq) a r).1 96 1 = p := hp1
      have e3 : setA (mset (mset S q qq) a r) 97 (80 * q + N - m) (r (N - 1) * inv p (xb (m - 1)) % p) = mset (mset S q (iup qq (N - m) (r (N - 1) * inv p (xb (m - 1)) % p))) a r := by
        rw [mset_comm (Ne.symm haq), show 80 * q + N - m = 80 * q + (N - m) by omega, mset_setA (by omega), mset_comm haq]
      have hst := DivI_step (f := r (N - 1) * inv p (xb (m - 1)) % p) hP hI (by omega) (by omega) hm0 hxbr hbz hbl (by rw [show N - m + m - 1 = N - 1 by omega])
      have hqs2 : Sup (iup qq (N - m) (r (N - 1) * inv p (xb (m - 1)) % p)) 80 := Sup_iup hqs (by omega)
      have hrs2 : Sup (padd p r (-(r (N - 1) * inv p (xb (m - 1)) % p)) xb (N - m)) 80 := padd_sup (la := m) hrr hr (by omega) hbz (by omega)
      have hpl : plen (padd p r (-(r (N - 1) * inv p (xb (m - 1)) % p)) xb (N - m)) 80 ≤ N - 1 := plen_le (by omega) (fun j h1 _ => hst.2.2.2.1 j (Or.inr (by omega)))
      have hbp := plen_bd (padd p r (-(r (N - 1) * inv p (xb (m - 1)) % p)) xb (N - m)) 80
      have hW3 : MdW p sh (mset (mset S q (iup qq (N - m) (r (N - 1) * inv p (xb (m - 1)) % p))) a (padd p r (-(r (N - 1) * inv p (xb (m - 1)) % p)) xb (N - m))) := MdW_set (MdW_set hW (Red_iup hI.1 hem)) (padd_red (by omega))
      have K : G g mX10_divideRows 4 0 0 159 [(7, .int (iI (r (N - 1) * inv p (xb (m - 1)) % p))), (6, .int (iI N)), (5, .int (iI by_)), (4, .int (iI m)), (0, gr g 96), (1, .int (iI a)), (2, .int (iI b)), (3, .int (iI q))] [] (hp g sh (mset (mset S q (iup qq (N - m) (r (N - 1) * inv p (xb (m - 1)) % p))) a (padd p r (-(r (N - 1) * inv p (xb (m - 1)) % p)) xb (N - m)))) n 0 0 Q := by
        refine S_aload_n (pc := 159) dX10_divideRows_159 rfl ?_
        refine G_iload_n (pc := 160) dX10_divideRows_160 rfl ?_
        refine S_callV (pc := 161) (ci := 10) (d2 := 1) (mc2 := 0) (ms2 := 0) (As := [_]) dX10_divideRows_161 kX10_length lkX10_94 (by assumption) rfl rfl rfl (Nat.le_of_ble_eq_true rfl) ⟨by decide, by decide⟩ (by decide) ?_
        refine c_X10_length hW3 ha ?_
        rw [mg_set hrs2]
        show G _ _ _ _ _ _ _ _ _ _ _ _ _
        refine G_istore (pc := 164) (ls' := [(6, _), (7, _), (5, _), (4, _), (0, _), (1, _), (2, _), (3, _)]) dX10_divideRows_164 (by decide) rfl ?_
        refine G_goto (pc := 166) 39 dX10_divideRows_166 rfl ?_
        refine G_ls (ls' := [(6, _), (5, _), (4, _), (0, _), (1, _), (2, _), (3, _)]) (lsub_c rfl (lsub_c rfl (lsub_c rfl (lsub_c rfl (lsub_c rfl (lsub_c rfl (lsub_c rfl lsub_n))))))) ?_
        exact ih _ _ _ (by omega) rfl (by omega) hrs2 (DivI_mono hst (by omega) (fun j hj => Sup_len hrs2 (by omega)))
      have hin := l_X10_divideI hW ha hb hq15 hab haq hbq hxb ⟨hm0, by omega⟩ (by omega) hem hbz hr hrr hqs2 (Red_iup hI.1 hem) K m.toNat 0 (by omega) (by omega)
      rw [Int.add_zero, seg_0] at hin
      rw [hby] at hin ⊢
      refine G_iload (pc := 39) dX10_divideRows_39 rfl ?_
      refine G_iload (pc := 41) dX10_divideRows_41 rfl ?_
      refine G_icmp_lt_f (pc := 43) 169 dX10_divideRows_43 rfl (by omega) (by omega) ?_
      refine S_aload_n (pc := 46) dX10_divideRows_46 rfl ?_
      refine S_getR (pc := 47) dX10_divideRows_47 fX10_13 (by assumption) rfl (by assumption) ?_
      refine G_bipush (pc := 50) dX10_divideRows_50 rfl ?_
      refine G_iload_n (pc := 52) dX10_divideRows_52 rfl ?_
      refine G_imul (pc := 53) dX10_divideRows_53 ?_
      refine G_iload (pc := 54) dX10_divideRows_54 rfl ?_
      refine G_iadd (pc := 56) dX10_divideRows_56 ?_
      refine G_iconst (pc := 57) dX10_divideRows_57 ?_
      refine G_isub (pc := 58) dX10_divideRows_58 ?_
      refine S_iald (pc := 59) dX10_divideRows_59 (by assumption) (by omega) ?_
      rw [e1]
      refine G_iload (pc := 60) dX10_divideRows_60 rfl ?_
      refine G_imul (pc := 62) dX10_divideRows_62 ?_
      refine S_aload_n (pc := 63) dX10_divideRows_63 rfl ?_
      refine S_getI (pc := 64) dX10_divideRows_64 fX10_64 (by assumption) rfl ?_
      rw [e2]
      refine G_iremP (pc := 67) dX10_divideRows_67 (by omega) ?_
      refine G_istore (pc := 68) (ls' := [(7, _), (6, _), (5, _), (4, _), (0, _), (1, _), (2, _), (3, _)]) dX10_divideRows_68 (by decide) rfl ?_
      refine S_aload_n (pc := 70) dX10_divideRows_70 rfl ?_
      refine S_getR (pc := 71) dX10_divideRows_71 fX10_13 (by assumption) rfl (by assumption) ?_
      refine G_bipush (pc := 74) dX10_divideRows_74 rfl ?_
      refine G_iload_n (pc := 76) dX10_divideRows_76 rfl ?_
      refine G_imul (pc := 77) dX10_divideRows_77 ?_
      refine G_iload (pc := 78) dX10_divideRows_78 rfl ?_
      refine G_iadd (pc := 80) dX10_divideRows_80 ?_
      refine G_iload (pc := 81) dX10_divideRows_81 rfl ?_
      refine G_isub (pc := 83) dX10_divideRows_83 ?_
      refine G_iload (pc := 84) dX10_divideRows_84 rfl ?_
      refine S_iast (pc := 86) dX10_divideRows_86 (by assumption) (by omega) ?_
      rw [e3]
      refine G_iconst (pc := 87) dX10_divideRows_87 ?_
      refine G_istore (pc := 88) (ls' := [(8, _), (7, _), (6, _), (5, _), (4, _), (0, _), (1, _), (2, _), (3, _)]) dX10_divideRows_88 (by decide) rfl ?_
      exact hin
set_option maxRecDepth 100000 in
set_option maxHeartbeats 4000000 in
theorem c_X10_divideRows {g : GC} {p a b q : Int} {sh : SH} {S : SS} {n : Nat} {Q : Option Value → GA → Nat → Prop} (hW : MdW p sh S) (ha : 0 ≤ a ∧ a ≤ 15) (hb : 0 ≤ b ∧ b ≤ 15) (hq15 : 0 ≤ q ∧ q ≤ 15) (hab : b ≠ a) (haq : a ≠ q) (hbq : b ≠ q) (hm : 0 < plen (mg S b) 80)
    (hq : ∀ qq r : Int → Int, DivS p (mg S a) (mg S b) qq r (plen (mg S a) 80) (plen (mg S b) 80) → Q none (hp g sh (mset (mset S q qq) a r)) n) : GCall g mX10_divideRows 4 0 0 [gr g 96, .int (iI a), .int (iI b), .int (iI q)] (hp g sh S) n Q := by
  have hW' := hW
  obtain ⟨hP, h96, hp1, p2, h97, hred⟩ := hW'
  have hpb := hP.bd
  have hba := plen_bd (mg S a) 80
  have hbb := plen_bd (mg S b) 80
  have hW2 : MdW p sh (mset S q pz) := MdW_set hW (Red_pz (by omega))
  have e1 : (mset S q pz).2.1 97 (80 * b + plen (mg S b) 80 - 1) = mg S b (plen (mg S b) 80 - 1) := by rw [mg_at (r := b) (i := plen (mg S b) 80 - 1) (by omega) (by omega), mg_ne hbq]
  have hx := mg_red (r := b) hW (plen (mg S b) 80 - 1)
  refine GCall.of (by decide) (Nat.le_of_ble_eq_true rfl) (ls := [(0, _), (1, _), (2, _), (3, _)]) rfl ?_
  refine S_aload_n (pc := 0) dX10_divideRows_0 rfl ?_
  refine G_iload_n (pc := 1) dX10_divideRows_1 rfl ?_
  refine S_callV (pc := 2) (ci := 10) (d2 := 1) (mc2 := 0) (ms2 := 0) (As := [_]) dX10_divideRows_2 kX10_empty lkX10_105 (by assumption) rfl rfl rfl (Nat.le_of_ble_eq_true rfl) ⟨by decide, by decide⟩ (by decide) ?_
  refine c_X10_empty hW hq15 ?_
  show G _ _ _ _ _ _ _ _ _ _ _ _ _
  refine S_aload_n (pc := 5) dX10_divideRows_5 rfl ?_
  refine G_iload_n (pc := 6) dX10_divideRows_6 rfl ?_
  refine S_callV (pc := 7) (ci := 10) (d2 := 1) (mc2 := 0) (ms2 := 0) (As := [_]) dX10_divideRows_7 kX10_length lkX10_94 (by assumption) rfl rfl rfl (Nat.le_of_ble_eq_true rfl) ⟨by decide, by decide⟩ (by decide) ?_
  refine c_X10_length hW2 hb ?_
  rw [mg_ne hbq]
  show G _ _ _ _ _ _ _ _ _ _ _ _ _
  refine G_istore (pc := 10) (ls' := [(4, _), (0, _), (1, _), (2, _), (3, _)]) dX10_divideRows_10 (by decide) rfl ?_
  refine S_aload_n (pc := 12) dX10_divideRows_12 rfl ?_
  refine S_aload_n (pc := 13) dX10_divideRows_13 rfl ?_
  refine S_getR (pc := 14) dX10_divideRows_14 fX10_13 (by assumption) rfl (by assumption) ?_
  refine G_bipush (pc := 17) dX10_divideRows_17 rfl ?_
  refine G_iload_n (pc := 19) dX10_divideRows_19 rfl ?_
  refine G_imul (pc := 20) dX10_divideRows_20 ?_
  refine G_iload (pc := 21) dX10_divideRows_21 rfl ?_
  refine G_iadd (pc := 23) dX10_divideRows_23 ?_
  refine G_iconst (pc := 24) dX10_divideRows_24 ?_
  refine G_isub (pc := 25) dX10_divideRows_25 ?_
  refine S_iald (pc := 26) dX10_divideRows_26 (by assumption) (by omega) ?_
  rw [e1]
  refine S_callV (pc := 27) (ci := 10) (d2 := 2) (mc2 := 0) (ms2 := 0) (As := [_]) dX10_divideRows_27 kX10_inverse lkX10_266 (by assumption) rfl rfl rfl (Nat.le_of_ble_eq_true rfl) ⟨by decide, by decide⟩ (by decide) ?_
  refine c_X10_inverse hW2 hx ?_
  show G _ _ _ _ _ _ _ _ _ _ _ _ _
  refine G_istore (pc := 30) (ls' := [(5, _), (4, _), (0, _), (1, _), (2, _), (3, _)]) dX10_divideRows_30 (by decide) rfl ?_
  refine S_aload_n (pc := 32) dX10_divideRows_32 rfl ?_
  refine G_iload_n (pc := 33) dX10_divideRows_33 rfl ?_
  refine S_callV (pc := 34) (ci := 10) (d2 := 1) (mc2 := 0) (ms2 := 0) (As := [_]) dX10_divideRows_34 kX10_length lkX10_94 (by assumption) rfl rfl rfl (Nat.le_of_ble_eq_true rfl) ⟨by decide, by decide⟩ (by decide) ?_
  refine c_X10_length hW2 ha ?_
  rw [mg_ne haq]
  show G _ _ _ _ _ _ _ _ _ _ _ _ _
  refine G_istore (pc := 37) (ls' := [(6, _), (5, _), (4, _), (0, _), (1, _), (2, _), (3, _)]) dX10_divideRows_37 (by decide) rfl ?_
  have := l_X10_divideRows (xa := mg S a) (xb := mg S b) hW ha hb hq15 hab haq hbq rfl rfl rfl hm rfl hq (plen (mg S a) 80).toNat (plen (mg S a) 80) pz (mg S a) (by omega) rfl (Int.le_refl _) mg_sup ⟨Red_pz (by omega), mg_red hW, fun j => Cg_of (by rw [conv_pz]; omega), fun j hj => hj.elim (fun h => mg_sup j (Or.inl h)) (fun h => Sup_len mg_sup (by omega)), fun j _ => rfl⟩
  rw [show mset (mset S q pz) a (mg S a) = mset S q pz by rw [mset_comm (Ne.symm haq), mset_self]] at this
  exact this
