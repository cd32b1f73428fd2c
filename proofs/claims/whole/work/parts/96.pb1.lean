/-! PolyBench: what stands, and what the calls share -/
def D1 (a : Nat) : Prop := a = 2 ∨ a = 3 ∨ (13 ≤ a ∧ a ≤ 29) ∨ (48 ≤ a ∧ a ≤ 63)
def pl (i : Int) : Nat := 48 + 2 * i.toNat
def pr (S : SS) (i : Int) : Int → Int := rv S (pl i)
def PbK (sh : SH) (S : SS) : Prop := sh 0 = some (.inl 9) ∧ S.2.2 0 0 = some 12 ∧ S.2.2 0 1 = some 13 ∧ S.2.2 0 2 = some 1 ∧ S.2.2 0 3 = some 2 ∧ S.2.2 0 4 = some 4 ∧ S.2.2 0 7 = some 5 ∧ S.2.2 0 8 = some 43 ∧ S.2.2 0 9 = some 9 ∧ S.2.2 0 12 = some 10 ∧ S.2.2 0 13 = some 30 ∧ S.2.2 0 14 = some 11 ∧ sh 1 = some (.inr (4, 8)) ∧ sh 4 = some (.inr (7, 8)) ∧ sh 9 = some (.inr (6, 6)) ∧ sh 10 = some (.inr (1, 6)) ∧ sh 11 = some (.inr (5, 4)) ∧ (∀ i : Int, 0 ≤ i → i < 8 → S.2.2 1 i = some (pl i)) ∧ (∀ i : Int, 0 ≤ i → i < 6 → S.2.2 9 i = some (72 + 4 * i.toNat)) ∧ ∀ i : Int, 0 ≤ i → i < 4 → S.2.2 11 i = some (64 + 2 * i.toNat)
def PbW (p : Int) (sh : SH) (S : SS) : Prop := PbK sh S ∧ AlgW p sh S ∧ Row p sh S 2 64 ∧ ∀ i : Int, 0 ≤ i → i < 8 → Row p sh S (pl i) 32
/-- POLY t becomes X -/
def PbE (p : Int) (sh : SH) (S : SS) (t : Int) (X : Int → Int) (S' : SS) : Prop := PbW p sh S' ∧ Same D1 S S' ∧ ∀ i : Int, 0 ≤ i → i < 8 → pr S' i = if i = t then X else pr S i
theorem pl_rng {i : Int} (h : 0 ≤ i ∧ i < 8) : 48 ≤ pl i ∧ pl i ≤ 62 ∧ (pl i : Int) = 48 + 2 * i := by unfold pl; omega
theorem pl_alg {i : Int} : ¬ AlgD (pl i) := by unfold AlgD pl; omega
theorem pl_ne {i : Int} {a : Nat} (h : a < 48) : pl i ≠ a := by unfold pl; omega
theorem pl_inj {i j : Int} (h : 0 ≤ i ∧ 0 ≤ j) (e : pl i = pl j) : i = j := by unfold pl at e; omega
theorem PbK_same {sh : SH} {S S' : SS} (h : Same D1 S S') (hK : PbK sh S) : PbK sh S' := by
  have e : ∀ (a : Nat) (k : Int), (a = 0 ∨ a = 1 ∨ a = 9 ∨ a = 11) → S'.2.2 a k = S.2.2 a k := fun a k q => h.2.2 a k (by unfold D1; omega)
  obtain ⟨k0, q0, q1, q2, q3, q4, q7, q8, q9, q12, q13, q14, s1, s4, s9, s10, s11, f1, f2, f3⟩ := hK
  refine ⟨k0, by rw [e 0 0 (by omega)]; exact q0, by rw [e 0 1 (by omega)]; exact q1, by rw [e 0 2 (by omega)]; exact q2, by rw [e 0 3 (by omega)]; exact q3, by rw [e 0 4 (by omega)]; exact q4, by rw [e 0 7 (by omega)]; exact q7, by rw [e 0 8 (by omega)]; exact q8, by rw [e 0 9 (by omega)]; exact q9, by rw [e 0 12 (by omega)]; exact q12, by rw [e 0 13 (by omega)]; exact q13, by rw [e 0 14 (by omega)]; exact q14, s1, s4, s9, s10, s11, fun i a b => by rw [e 1 i (by omega)]; exact f1 i a b, fun i a b => by rw [e 9 i (by omega)]; exact f2 i a b, fun i a b => by rw [e 11 i (by omega)]; exact f3 i a b⟩
theorem AlgW_ne {p : Int} {sh : SH} {S : SS} {a N : Nat} {xs : Int → Int} (h : AlgW p sh S) (ha : ¬ AlgD a) : AlgW p sh (rput S a xs N) := by
  obtain ⟨hA, o, w, f, v, hE⟩ := h
  exact ⟨Alg_ne hA (nD ha (aD (by decide))) (nD ha (aD (by decide))) (nD ha (aD (by decide))) (nD ha (aD (by decide))), o, w, f, v, EuP_ne hE (pAll hE.2.2.2.2.1 (nD22 ha))⟩
theorem pl_D1 {i : Int} (h : 0 ≤ i ∧ i < 8) : D1 (pl i) ∧ D1 (pl i + 1) := by
  have := pl_rng h
  unfold D1; omega
theorem PbE_put {p t : Int} {sh : SH} {S : SS} {xs : Int → Int} (hW : PbW p sh S) (ht : 0 ≤ t ∧ t < 8) (h1 : Sup xs 32) (h2 : Red p xs) : PbE p sh S t xs (rput S (pl t) xs 32) := by
  obtain ⟨hK, hA, h2', hP⟩ := hW
  have hS : Same D1 S (rput S (pl t) xs 32) := Same_put Same_rf (pl_D1 ht).1 (pl_D1 ht).2
  refine ⟨⟨PbK_same hS hK, AlgW_ne hA pl_alg, Row_ne h2' (Ne.symm (pl_ne (by decide))), fun i a b => ?_⟩, hS, fun i a b => ?_⟩
  · by_cases c : i = t
    · rw [c]; exact Row_put (hP t ht.1 ht.2) h1 h2
    · exact Row_ne (hP i a b) (fun e => c (pl_inj ⟨a, ht.1⟩ e))
  · by_cases c : i = t
    · rw [if_pos c, c]; exact rput_rv
    · rw [if_neg c]; exact rput_ne (fun e => c (pl_inj ⟨a, ht.1⟩ e))
theorem PbE_tr {p t : Int} {sh : SH} {S S1 S' : SS} {X : Int → Int} (h : PbE p sh S1 t X S') (hs : Same D1 S S1) (he : ∀ i : Int, 0 ≤ i → i < 8 → pr S1 i = pr S i) : PbE p sh S t X S' :=
  ⟨h.1, Same_tr hs h.2.1, fun i a b => by rw [h.2.2 i a b, he i a b]⟩
/-- rows but the POLYS' are written -/
theorem PbW_put {p : Int} {sh : SH} {S : SS} {xs : Int → Int} (hW : PbW p sh S) (h1 : Sup xs 64) (h2 : Red p xs) : PbW p sh (rput S 2 xs 64) ∧ Same D1 S (rput S 2 xs 64) ∧ ∀ i : Int, 0 ≤ i → i < 8 → pr (rput S 2 xs 64) i = pr S i := by
  obtain ⟨hK, hA, h2', hP⟩ := hW
  have hS : Same D1 S (rput S 2 xs 64) := Same_put Same_rf (by unfold D1; omega) (by unfold D1; omega)
  exact ⟨⟨PbK_same hS hK, AlgW_ne hA (by unfold AlgD; omega), Row_put h2' h1 h2, fun i a b => Row_ne (hP i a b) (pl_ne (by decide))⟩, hS, fun i a b => rput_ne (pl_ne (by decide))⟩
theorem Row_same {p : Int} {sh : SH} {S S' : SS} {D : Nat → Prop} {a N : Nat} (h : Same D S S') (h1 : ¬ D a) (h2 : ¬ D (a + 1)) (hr : Row p sh S a N) : Row p sh S' a N := by
  obtain ⟨⟨r1, r2, r3⟩, r4, r5, r6, r7⟩ := hr
  have e : rv S' a = rv S a := h.2.1 (a + 1) h2
  exact ⟨⟨r1, r2, by rw [h.2.2 a 0 h1]; exact r3⟩, r4, by rw [h.1 a 1 h1, e]; exact r5, by rw [e]; exact r6, by rw [e]; exact r7⟩
theorem PbW_alg {p : Int} {sh : SH} {S S' : SS} (hW : PbW p sh S) (hs : Same AlgD S S') (hA : AlgW p sh S') : PbW p sh S' ∧ Same D1 S S' ∧ ∀ i : Int, 0 ≤ i → i < 8 → pr S' i = pr S i := by
  obtain ⟨hK, -, h2', hP⟩ := hW
  have hS : Same D1 S S' := Same_mono hs (fun a h => by unfold AlgD at h; unfold D1; omega)
  have nn : ∀ i : Int, ¬ AlgD (pl i + 1) := fun i => by unfold AlgD pl; omega
  exact ⟨⟨PbK_same hS hK, hA, Row_same hs (by unfold AlgD; omega) (by unfold AlgD; omega) h2', fun i a b => Row_same hs pl_alg (nn i) (hP i a b)⟩, hS, fun i a b => hs.2.1 _ (nn i)⟩
theorem clip_len {xs : Int → Int} (h : Sup xs 32) : clip 32 xs = xs := clip_id h
set_option maxRecDepth 100000 in
set_option maxHeartbeats 4000000 in
theorem c_X9_isPoly {g : GC} {h : GA} {n : Nat} {i : Int} {Q : Option Value → GA → Nat → Prop} (hr : -2147483648 ≤ i ∧ i ≤ 2147483647) (h1 : 0 ≤ i ∧ i < 8 → Q (some (.int (iI 1))) h n) (h0 : ¬ (0 ≤ i ∧ i < 8) → Q (some (.int (iI 0))) h n) : GCall g mX9_isPoly 2 0 0 [.int (iI i)] h n Q := by
  refine GCall.of (by decide) (Nat.le_of_ble_eq_true rfl) (ls := [(0, _)]) rfl ?_
  refine G_iload_n (pc := 0) dX9_isPoly_0 rfl ?_
  refine G_bipush (pc := 1) dX9_isPoly_1 rfl ?_
  refine G_callS (pc := 3) (d2 := 1) (mc2 := 0) (ms2 := 0) (As := [_, _]) dX9_isPoly_3 kX9_isWithin lkX9_111 rfl rfl (Nat.le_of_ble_eq_true rfl) ⟨by decide, by decide⟩ (by decide) ?_
  refine c_X9_isWithin (by omega) (fun w3 => ?_) (fun w3 => ?_)
  · show G _ _ _ _ _ _ _ _ _ _ _ _ _
    refine G_zret (pc := 6) dX9_isPoly_6 rfl nar_z1 (by decide) ?_
    first | exact h1 (by omega) | exact h0 (by omega)
  · show G _ _ _ _ _ _ _ _ _ _ _ _ _
    refine G_zret (pc := 6) dX9_isPoly_6 rfl nar_z0 (by decide) ?_
    first | exact h1 (by omega) | exact h0 (by omega)
set_option maxRecDepth 100000 in
set_option maxHeartbeats 4000000 in
theorem c_X9_arePolys {g : GC} {h : GA} {n : Nat} {a b c : Int} {Q : Option Value → GA → Nat → Prop} (hr : (-2147483648 ≤ a ∧ a ≤ 2147483647) ∧ (-2147483648 ≤ b ∧ b ≤ 2147483647) ∧ (-2147483648 ≤ c ∧ c ≤ 2147483647)) (h1 : (0 ≤ a ∧ a < 8) ∧ (0 ≤ b ∧ b < 8) ∧ (0 ≤ c ∧ c < 8) → Q (some (.int (iI 1))) h n) (h0 : ¬ ((0 ≤ a ∧ a < 8) ∧ (0 ≤ b ∧ b < 8) ∧ (0 ≤ c ∧ c < 8)) → Q (some (.int (iI 0))) h n) : GCall g mX9_arePolys 3 0 0 [.int (iI a), .int (iI b), .int (iI c)] h n Q := by
  refine GCall.of (by decide) (Nat.le_of_ble_eq_true rfl) (ls := [(0, _), (1, _), (2, _)]) rfl ?_
  refine G_iload_n (pc := 0) dX9_arePolys_0 rfl ?_
  refine G_callS (pc := 1) (d2 := 2) (mc2 := 0) (ms2 := 0) (As := [_]) dX9_arePolys_1 kX9_isPoly lkX9_107 rfl rfl (Nat.le_of_ble_eq_true rfl) ⟨by decide, by decide⟩ (by decide) ?_
  refine c_X9_isPoly (by omega) (fun w1 => ?_) (fun w1 => ?_)
  · show G _ _ _ _ _ _ _ _ _ _ _ _ _
    refine G_if_eq_f (pc := 4) 25 dX9_arePolys_4 rfl (by decide) (by decide) ?_
    refine G_iload_n (pc := 7) dX9_arePolys_7 rfl ?_
    refine G_callS (pc := 8) (d2 := 2) (mc2 := 0) (ms2 := 0) (As := [_]) dX9_arePolys_8 kX9_isPoly lkX9_107 rfl rfl (Nat.le_of_ble_eq_true rfl) ⟨by decide, by decide⟩ (by decide) ?_
    refine c_X9_isPoly (by omega) (fun w8 => ?_) (fun w8 => ?_)
    · show G _ _ _ _ _ _ _ _ _ _ _ _ _
      refine G_if_eq_f (pc := 11) 25 dX9_arePolys_11 rfl (by decide) (by decide) ?_
      refine G_iload_n (pc := 14) dX9_arePolys_14 rfl ?_
      refine G_callS (pc := 15) (d2 := 2) (mc2 := 0) (ms2 := 0) (As := [_]) dX9_arePolys_15 kX9_isPoly lkX9_107 rfl rfl (Nat.le_of_ble_eq_true rfl) ⟨by decide, by decide⟩ (by decide) ?_
      refine c_X9_isPoly (by omega) (fun w15 => ?_) (fun w15 => ?_)
      · show G _ _ _ _ _ _ _ _ _ _ _ _ _
        refine G_if_eq_f (pc := 18) 25 dX9_arePolys_18 rfl (by decide) (by decide) ?_
        refine G_iconst (pc := 21) dX9_arePolys_21 ?_
        refine G_goto (pc := 22) 26 dX9_arePolys_22 rfl ?_
        refine G_zret (pc := 26) dX9_arePolys_26 rfl nar_z1 (by decide) ?_
        first | exact h1 (by omega) | exact h0 (by omega)
      · show G _ _ _ _ _ _ _ _ _ _ _ _ _
        refine G_if_eq_t (pc := 18) 25 dX9_arePolys_18 rfl (by decide) (by decide) ?_
        refine G_iconst (pc := 25) dX9_arePolys_25 ?_
        refine G_zret (pc := 26) dX9_arePolys_26 rfl nar_z0 (by decide) ?_
        first | exact h1 (by omega) | exact h0 (by omega)
    · show G _ _ _ _ _ _ _ _ _ _ _ _ _
      refine G_if_eq_t (pc := 11) 25 dX9_arePolys_11 rfl (by decide) (by decide) ?_
      refine G_iconst (pc := 25) dX9_arePolys_25 ?_
      refine G_zret (pc := 26) dX9_arePolys_26 rfl nar_z0 (by decide) ?_
      first | exact h1 (by omega) | exact h0 (by omega)
  · show G _ _ _ _ _ _ _ _ _ _ _ _ _
    refine G_if_eq_t (pc := 4) 25 dX9_arePolys_4 rfl (by decide) (by decide) ?_
    refine G_iconst (pc := 25) dX9_arePolys_25 ?_
    refine G_zret (pc := 26) dX9_arePolys_26 rfl nar_z0 (by decide) ?_
    first | exact h1 (by omega) | exact h0 (by omega)
set_option maxRecDepth 100000 in
set_option maxHeartbeats 4000000 in
theorem c_X9_become {g : GC} {p t : Int} {sh : SH} {S : SS} {n b M : Nat} {Q : Option Value → GA → Nat → Prop} (hW : PbW p sh S) (ht : 0 ≤ t ∧ t < 8) (hb : Row p sh S b M) (hbt : b ≠ pl t) (hq : Q (some (.int (iI (plen (clip 32 (rv S b)) 32)))) (hp g sh (rput S (pl t) (clip 32 (rv S b)) 32)) n) : GCall g mX9_become 4 0 0 [gr g 0, .int (iI t), gr g b] (hp g sh S) n Q := by
  have hW' := hW
  obtain ⟨hK, hA, hMd, hPo⟩ := hW'
  obtain ⟨k0, q0, q1, q2, q3, q4, q7, q8, q9, q12, q13, q14, s1, s4, s9, s10, s11, f1, f2, f3⟩ := hK
  have hP := hA.1.1
  have hRs := hA.1.2.1
  have hpb := hP.bd
  have h12 := hRs.1
  have h13 := hA.1.2.2.1
  have h2s := hMd.1.1
  refine GCall.of (by decide) (Nat.le_of_ble_eq_true rfl) (ls := [(0, _), (1, _), (2, _)]) rfl ?_
  have hr := hPo t ht.1 ht.2
  have hE := PbE_put hW ht (xs := clip 32 (rv S b)) clip_sup (clip_red (by omega) hb.2.2.2.2)
  have e1 : (rput S (pl t) (clip 32 (rv S b)) 32).1 (pl t) 1 = plen (clip 32 (rv S b)) 32 := rput_L
  refine S_aload_n (pc := 0) dX9_become_0 rfl ?_
  refine S_getR (pc := 1) dX9_become_1 fX9_11 (by assumption) rfl (by assumption) ?_
  refine G_iload_n (pc := 4) dX9_become_4 rfl ?_
  refine S_aald (pc := 5) dX9_become_5 (by assumption) rfl (by omega) (f1 _ ht.1 ht.2) ?_
  refine S_aload_n (pc := 6) dX9_become_6 rfl ?_
  refine S_callV (pc := 7) (ci := 4) (d2 := 3) (mc2 := 0) (ms2 := 0) (As := [_]) dX9_become_7 kX4_copy lkX9_136 hr.1.1 rfl rfl rfl (Nat.le_of_ble_eq_true rfl) ⟨by decide, by decide⟩ (by decide) ?_
  refine c_X4_copy hr hb hbt (by omega) ?_
  show G _ _ _ _ _ _ _ _ _ _ _ _ _
  refine S_aload_n (pc := 10) dX9_become_10 rfl ?_
  refine S_getR (pc := 11) dX9_become_11 fX9_11 (by assumption) rfl (by assumption) ?_
  refine G_iload_n (pc := 14) dX9_become_14 rfl ?_
  refine S_aald (pc := 15) dX9_become_15 (by assumption) rfl (by omega) (f1 _ ht.1 ht.2) ?_
  refine S_callV (pc := 16) (ci := 4) (d2 := 1) (mc2 := 0) (ms2 := 0) (As := []) dX9_become_16 kX4_length lkX9_127 hr.1.1 rfl rfl rfl (Nat.le_of_ble_eq_true rfl) ⟨by decide, by decide⟩ (by decide) ?_
  refine c_X4_length (hE.1.2.2.2 t ht.1 ht.2).1 ?_
  rw [e1]
  show G _ _ _ _ _ _ _ _ _ _ _ _ _
  refine G_iret (pc := 19) dX9_become_19 rfl (by decide) ?_
  exact hq
set_option maxRecDepth 100000 in
set_option maxHeartbeats 4000000 in
theorem c_X9_put {g : GC} {p a i v : Int} {sh : SH} {S : SS} {n : Nat} {Q : Option Value → GA → Nat → Prop} (hW : PbW p sh S) (hr : (-2147483648 ≤ a ∧ a ≤ 2147483647) ∧ (-2147483648 ≤ i ∧ i ≤ 2147483647) ∧ (-2147483648 ≤ v ∧ v ≤ 2147483647)) (h0 : ¬ ((0 ≤ a ∧ a < 8) ∧ (0 ≤ i ∧ i < 32)) → Q (some (.int (iI (-2)))) (hp g sh S) n) (h1 : (0 ≤ a ∧ a < 8) → (0 ≤ i ∧ i < 32) → ∀ S' : SS, PbE p sh S a (iup (pr S a) i (v % p)) S' → Q (some (.int (iI (pr S a i)))) (hp g sh S') n) : GCall g mX9_put 3 0 0 [gr g 0, .int (iI a), .int (iI i), .int (iI v)] (hp g sh S) n Q := by
  have hW' := hW
  obtain ⟨hK, hA, hMd, hPo⟩ := hW'
  obtain ⟨k0, q0, q1, q2, q3, q4, q7, q8, q9, q12, q13, q14, s1, s4, s9, s10, s11, f1, f2, f3⟩ := hK
  have hP := hA.1.1
  have hRs := hA.1.2.1
  have hpb := hP.bd
  have h12 := hRs.1
  have h13 := hA.1.2.2.1
  have h2s := hMd.1.1
  refine GCall.of (by decide) (Nat.le_of_ble_eq_true rfl) (ls := [(0, _), (1, _), (2, _), (3, _)]) rfl ?_
  have hv := Int.emod_nonneg v (show p ≠ 0 by omega)
  have hv2 := Int.emod_lt_of_pos v (show 0 < p by omega)
  refine G_iload_n (pc := 0) dX9_put_0 rfl ?_
  refine G_callS (pc := 1) (d2 := 2) (mc2 := 0) (ms2 := 0) (As := [_]) dX9_put_1 kX9_isPoly lkX9_107 rfl rfl (Nat.le_of_ble_eq_true rfl) ⟨by decide, by decide⟩ (by decide) ?_
  refine c_X9_isPoly (by omega) (fun w1 => ?_) (fun w1 => ?_)
  · show G _ _ _ _ _ _ _ _ _ _ _ _ _
    refine G_if_eq_f (pc := 4) 16 dX9_put_4 rfl (by decide) (by decide) ?_
    refine G_iload_n (pc := 7) dX9_put_7 rfl ?_
    refine G_bipush (pc := 8) dX9_put_8 rfl ?_
    refine G_callS (pc := 10) (d2 := 1) (mc2 := 0) (ms2 := 0) (As := [_, _]) dX9_put_10 kX9_isWithin lkX9_111 rfl rfl (Nat.le_of_ble_eq_true rfl) ⟨by decide, by decide⟩ (by decide) ?_
    refine c_X9_isWithin (by omega) (fun w10 => ?_) (fun w10 => ?_)
    · show G _ _ _ _ _ _ _ _ _ _ _ _ _
      refine G_if_ne_t (pc := 13) 19 dX9_put_13 rfl (by decide) (by decide) ?_
      refine S_aload_n (pc := 19) dX9_put_19 rfl ?_
      refine S_getR (pc := 20) dX9_put_20 fX9_11 (by assumption) rfl (by assumption) ?_
      refine G_iload_n (pc := 23) dX9_put_23 rfl ?_
      refine S_aald (pc := 24) dX9_put_24 (by assumption) rfl (by omega) (f1 _ w1.1 w1.2) ?_
      refine G_iload_n (pc := 25) dX9_put_25 rfl ?_
      refine S_callV (pc := 26) (ci := 4) (d2 := 1) (mc2 := 0) (ms2 := 0) (As := [_]) dX9_put_26 kX4_get lkX9_115 (hPo _ w1.1 w1.2).1.1 rfl rfl rfl (Nat.le_of_ble_eq_true rfl) ⟨by decide, by decide⟩ (by decide) ?_
      refine c_X4_get (hPo a w1.1 w1.2) (by omega) ?_
      show G _ _ _ _ _ _ _ _ _ _ _ _ _
      refine G_istore (pc := 29) (ls' := [(4, _), (0, _), (1, _), (2, _), (3, _)]) dX9_put_29 (by decide) rfl ?_
      refine S_aload_n (pc := 31) dX9_put_31 rfl ?_
      refine S_getR (pc := 32) dX9_put_32 fX9_11 (by assumption) rfl (by assumption) ?_
      refine G_iload_n (pc := 35) dX9_put_35 rfl ?_
      refine S_aald (pc := 36) dX9_put_36 (by assumption) rfl (by omega) (f1 _ w1.1 w1.2) ?_
      refine G_iload_n (pc := 37) dX9_put_37 rfl ?_
      refine S_aload_n (pc := 38) dX9_put_38 rfl ?_
      refine S_getR (pc := 39) dX9_put_39 fX9_54 (by assumption) rfl (by assumption) ?_
      refine G_iload_n (pc := 42) dX9_put_42 rfl ?_
      refine G_i2l (pc := 43) dX9_put_43 (by omega) ?_
      refine S_callV (pc := 44) (ci := 3) (d2 := 1) (mc2 := 0) (ms2 := 0) (As := [_]) dX9_put_44 kX3_rest lkX9_119 (by assumption) rfl rfl rfl (Nat.le_of_ble_eq_true rfl) ⟨by decide, by decide⟩ (by decide) ?_
      refine c_X3_rest hRs hP (by omega) ?_
      show G _ _ _ _ _ _ _ _ _ _ _ _ _
      refine S_callV (pc := 47) (ci := 4) (d2 := 1) (mc2 := 0) (ms2 := 0) (As := [_, _]) dX9_put_47 kX4_set lkX9_123 (hPo _ w1.1 w1.2).1.1 rfl rfl rfl (Nat.le_of_ble_eq_true rfl) ⟨by decide, by decide⟩ (by decide) ?_
      refine c_X4_set (hPo a w1.1 w1.2) (by omega) (by omega) (by omega) ?_
      show G _ _ _ _ _ _ _ _ _ _ _ _ _
      refine G_iload (pc := 50) dX9_put_50 rfl ?_
      refine G_iret (pc := 52) dX9_put_52 rfl (by decide) ?_
      first | exact h0 (by omega) | exact h1 w1 w10 _ (PbE_put hW w1 (Sup_iup (hPo a w1.1 w1.2).2.2.2.1 (by omega)) (Red_iup (hPo a w1.1 w1.2).2.2.2.2 (by omega)))
    · show G _ _ _ _ _ _ _ _ _ _ _ _ _
      refine G_if_ne_f (pc := 13) 19 dX9_put_13 rfl (by decide) (by decide) ?_
      refine G_bipush (pc := 16) dX9_put_16 rfl ?_
      refine G_iret (pc := 18) dX9_put_18 rfl (by decide) ?_
      first | exact h0 (by omega) | exact h1 w1 w10 _ (PbE_put hW w1 (Sup_iup (hPo a w1.1 w1.2).2.2.2.1 (by omega)) (Red_iup (hPo a w1.1 w1.2).2.2.2.2 (by omega)))
  · show G _ _ _ _ _ _ _ _ _ _ _ _ _
    refine G_if_eq_t (pc := 4) 16 dX9_put_4 rfl (by decide) (by decide) ?_
    refine G_bipush (pc := 16) dX9_put_16 rfl ?_
    refine G_iret (pc := 18) dX9_put_18 rfl (by decide) ?_
    first | exact h0 (by omega) | exact h1 w1 w10 _ (PbE_put hW w1 (Sup_iup (hPo a w1.1 w1.2).2.2.2.1 (by omega)) (Red_iup (hPo a w1.1 w1.2).2.2.2.2 (by omega)))
set_option maxRecDepth 100000 in
set_option maxHeartbeats 4000000 in
theorem c_X9_at {g : GC} {p a i : Int} {sh : SH} {S : SS} {n : Nat} {Q : Option Value → GA → Nat → Prop} (hW : PbW p sh S) (hr : (-2147483648 ≤ a ∧ a ≤ 2147483647) ∧ (-2147483648 ≤ i ∧ i ≤ 2147483647)) (h0 : ¬ ((0 ≤ a ∧ a < 8) ∧ (-1 ≤ i ∧ i < 32)) → Q (some (.int (iI (-2)))) (hp g sh S) n) (h1 : (0 ≤ a ∧ a < 8) → i = -1 → Q (some (.int (iI (plen (pr S a) 32)))) (hp g sh S) n) (h2 : (0 ≤ a ∧ a < 8) → (0 ≤ i ∧ i < 32) → Q (some (.int (iI (pr S a i)))) (hp g sh S) n) : GCall g mX9_at 3 0 0 [gr g 0, .int (iI a), .int (iI i)] (hp g sh S) n Q := by
  have hW' := hW
  obtain ⟨hK, hA, hMd, hPo⟩ := hW'
  obtain ⟨k0, q0, q1, q2, q3, q4, q7, q8, q9, q12, q13, q14, s1, s4, s9, s10, s11, f1, f2, f3⟩ := hK
  have hP := hA.1.1
  have hRs := hA.1.2.1
  have hpb := hP.bd
  have h12 := hRs.1
  have h13 := hA.1.2.2.1
  have h2s := hMd.1.1
  refine GCall.of (by decide) (Nat.le_of_ble_eq_true rfl) (ls := [(0, _), (1, _), (2, _)]) rfl ?_
  have eL : 0 ≤ a ∧ a < 8 → S.1 (pl a) 1 = plen (pr S a) 32 := fun z => (hPo a z.1 z.2).2.2.1
  refine G_iload_n (pc := 0) dX9_at_0 rfl ?_
  refine G_callS (pc := 1) (d2 := 2) (mc2 := 0) (ms2 := 0) (As := [_]) dX9_at_1 kX9_isPoly lkX9_107 rfl rfl (Nat.le_of_ble_eq_true rfl) ⟨by decide, by decide⟩ (by decide) ?_
  refine c_X9_isPoly (by omega) (fun w1 => ?_) (fun w1 => ?_)
  · show G _ _ _ _ _ _ _ _ _ _ _ _ _
    refine G_if_eq_f (pc := 4) 18 dX9_at_4 rfl (by decide) (by decide) ?_
    refine G_iload_n (pc := 7) dX9_at_7 rfl ?_
    refine G_iconst (pc := 8) dX9_at_8 ?_
    refine G_icmp_lt (pc := 9) 18 dX9_at_9 rfl (by omega) (fun c9 => ?_) (fun c9 => ?_)
    · skip
      refine G_bipush (pc := 18) dX9_at_18 rfl ?_
      refine G_iret (pc := 20) dX9_at_20 rfl (by decide) ?_
      first | exact h0 (by omega) | exact h1 w1 (by omega) | exact h2 w1 (by omega)
    · skip
      refine G_iload_n (pc := 12) dX9_at_12 rfl ?_
      refine G_bipush (pc := 13) dX9_at_13 rfl ?_
      refine G_icmp_lt (pc := 15) 21 dX9_at_15 rfl (by omega) (fun c15 => ?_) (fun c15 => ?_)
      · skip
        refine G_iload_n (pc := 21) dX9_at_21 rfl ?_
        refine G_iconst (pc := 22) dX9_at_22 ?_
        refine G_icmp_ne (pc := 23) 38 dX9_at_23 rfl (by omega) (fun c23 => ?_) (fun c23 => ?_)
        · skip
          refine S_aload_n (pc := 38) dX9_at_38 rfl ?_
          refine S_getR (pc := 39) dX9_at_39 fX9_11 (by assumption) rfl (by assumption) ?_
          refine G_iload_n (pc := 42) dX9_at_42 rfl ?_
          refine S_aald (pc := 43) dX9_at_43 (by assumption) rfl (by omega) (f1 _ w1.1 w1.2) ?_
          refine G_iload_n (pc := 44) dX9_at_44 rfl ?_
          refine S_callV (pc := 45) (ci := 4) (d2 := 1) (mc2 := 0) (ms2 := 0) (As := [_]) dX9_at_45 kX4_get lkX9_115 (hPo _ w1.1 w1.2).1.1 rfl rfl rfl (Nat.le_of_ble_eq_true rfl) ⟨by decide, by decide⟩ (by decide) ?_
          refine c_X4_get (hPo a w1.1 w1.2) (by omega) ?_
          show G _ _ _ _ _ _ _ _ _ _ _ _ _
          refine G_iret (pc := 48) dX9_at_48 rfl (by decide) ?_
          first | exact h0 (by omega) | exact h1 w1 (by omega) | exact h2 w1 (by omega)
        · skip
          refine S_aload_n (pc := 26) dX9_at_26 rfl ?_
          refine S_getR (pc := 27) dX9_at_27 fX9_11 (by assumption) rfl (by assumption) ?_
          refine G_iload_n (pc := 30) dX9_at_30 rfl ?_
          refine S_aald (pc := 31) dX9_at_31 (by assumption) rfl (by omega) (f1 _ w1.1 w1.2) ?_
          refine S_callV (pc := 32) (ci := 4) (d2 := 1) (mc2 := 0) (ms2 := 0) (As := []) dX9_at_32 kX4_length lkX9_127 (hPo _ w1.1 w1.2).1.1 rfl rfl rfl (Nat.le_of_ble_eq_true rfl) ⟨by decide, by decide⟩ (by decide) ?_
          refine c_X4_length (hPo a w1.1 w1.2).1 ?_
          rw [eL w1]
          show G _ _ _ _ _ _ _ _ _ _ _ _ _
          refine G_goto (pc := 35) 48 dX9_at_35 rfl ?_
          refine G_iret (pc := 48) dX9_at_48 rfl (by decide) ?_
          first | exact h0 (by omega) | exact h1 w1 (by omega) | exact h2 w1 (by omega)
      · skip
        refine G_bipush (pc := 18) dX9_at_18 rfl ?_
        refine G_iret (pc := 20) dX9_at_20 rfl (by decide) ?_
        first | exact h0 (by omega) | exact h1 w1 (by omega) | exact h2 w1 (by omega)
  · show G _ _ _ _ _ _ _ _ _ _ _ _ _
    refine G_if_eq_t (pc := 4) 18 dX9_at_4 rfl (by decide) (by decide) ?_
    refine G_bipush (pc := 18) dX9_at_18 rfl ?_
    refine G_iret (pc := 20) dX9_at_20 rfl (by decide) ?_
    first | exact h0 (by omega) | exact h1 w1 (by omega) | exact h2 w1 (by omega)
set_option maxRecDepth 100000 in
set_option maxHeartbeats 4000000 in
theorem c_X9_clear {g : GC} {p a : Int} {sh : SH} {S : SS} {n : Nat} {Q : Option Value → GA → Nat → Prop} (hW : PbW p sh S) (hr : -2147483648 ≤ a ∧ a ≤ 2147483647) (h0 : ¬ (0 ≤ a ∧ a < 8) → Q (some (.int (iI (-2)))) (hp g sh S) n) (h1 : (0 ≤ a ∧ a < 8) → ∀ S' : SS, PbE p sh S a pz S' → Q (some (.int (iI (plen (pr S a) 32)))) (hp g sh S') n) : GCall g mX9_clear 3 0 0 [gr g 0, .int (iI a)] (hp g sh S) n Q := by
  have hW' := hW
  obtain ⟨hK, hA, hMd, hPo⟩ := hW'
  obtain ⟨k0, q0, q1, q2, q3, q4, q7, q8, q9, q12, q13, q14, s1, s4, s9, s10, s11, f1, f2, f3⟩ := hK
  have hP := hA.1.1
  have hRs := hA.1.2.1
  have hpb := hP.bd
  have h12 := hRs.1
  have h13 := hA.1.2.2.1
  have h2s := hMd.1.1
  refine GCall.of (by decide) (Nat.le_of_ble_eq_true rfl) (ls := [(0, _), (1, _)]) rfl ?_
  have eL : 0 ≤ a ∧ a < 8 → S.1 (pl a) 1 = plen (pr S a) 32 := fun z => (hPo a z.1 z.2).2.2.1
  refine G_iload_n (pc := 0) dX9_clear_0 rfl ?_
  refine G_callS (pc := 1) (d2 := 2) (mc2 := 0) (ms2 := 0) (As := [_]) dX9_clear_1 kX9_isPoly lkX9_107 rfl rfl (Nat.le_of_ble_eq_true rfl) ⟨by decide, by decide⟩ (by decide) ?_
  refine c_X9_isPoly (by omega) (fun w1 => ?_) (fun w1 => ?_)
  · show G _ _ _ _ _ _ _ _ _ _ _ _ _
    refine G_if_ne_t (pc := 4) 10 dX9_clear_4 rfl (by decide) (by decide) ?_
    refine S_aload_n (pc := 10) dX9_clear_10 rfl ?_
    refine S_getR (pc := 11) dX9_clear_11 fX9_11 (by assumption) rfl (by assumption) ?_
    refine G_iload_n (pc := 14) dX9_clear_14 rfl ?_
    refine S_aald (pc := 15) dX9_clear_15 (by assumption) rfl (by omega) (f1 _ w1.1 w1.2) ?_
    refine S_callV (pc := 16) (ci := 4) (d2 := 1) (mc2 := 0) (ms2 := 0) (As := []) dX9_clear_16 kX4_length lkX9_127 (hPo _ w1.1 w1.2).1.1 rfl rfl rfl (Nat.le_of_ble_eq_true rfl) ⟨by decide, by decide⟩ (by decide) ?_
    refine c_X4_length (hPo a w1.1 w1.2).1 ?_
    rw [eL w1]
    show G _ _ _ _ _ _ _ _ _ _ _ _ _
    refine G_istore_n (pc := 19) (ls' := [(2, _), (0, _), (1, _)]) dX9_clear_19 (by decide) rfl ?_
    refine S_aload_n (pc := 20) dX9_clear_20 rfl ?_
    refine S_getR (pc := 21) dX9_clear_21 fX9_11 (by assumption) rfl (by assumption) ?_
    refine G_iload_n (pc := 24) dX9_clear_24 rfl ?_
    refine S_aald (pc := 25) dX9_clear_25 (by assumption) rfl (by omega) (f1 _ w1.1 w1.2) ?_
    refine S_callV (pc := 26) (ci := 4) (d2 := 1) (mc2 := 0) (ms2 := 0) (As := []) dX9_clear_26 kX4_wipe lkX9_131 (hPo _ w1.1 w1.2).1.1 rfl rfl rfl (Nat.le_of_ble_eq_true rfl) ⟨by decide, by decide⟩ (by decide) ?_
    refine c_X4_wipe (hPo a w1.1 w1.2) ?_
    show G _ _ _ _ _ _ _ _ _ _ _ _ _
    refine G_iload_n (pc := 29) dX9_clear_29 rfl ?_
    refine G_iret (pc := 30) dX9_clear_30 rfl (by decide) ?_
    first | exact h0 (by omega) | exact h1 w1 _ (PbE_put hW w1 Sup_pz (Red_pz (by omega)))
  · show G _ _ _ _ _ _ _ _ _ _ _ _ _
    refine G_if_ne_f (pc := 4) 10 dX9_clear_4 rfl (by decide) (by decide) ?_
    refine G_bipush (pc := 7) dX9_clear_7 rfl ?_
    refine G_iret (pc := 9) dX9_clear_9 rfl (by decide) ?_
    first | exact h0 (by omega) | exact h1 w1 _ (PbE_put hW w1 Sup_pz (Red_pz (by omega)))
