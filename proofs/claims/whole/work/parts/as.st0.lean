/-! THE LAW'S INVARIANT at the start: what both constructors leave -/
theorem shT_lt {n m a : Nat} (h : a < n) (h' : a < m) : shT n a = shT m a := by
  unfold shT
  rw [if_pos h, if_pos h']
section ST0
variable {x : Int} {S : SS}
theorem I9_A (h : I9 x S) {a : Nat} (h1 : a ≠ 6 ∧ a ≠ 7 ∧ a ≠ 8 ∧ a ≠ 73 ∧ a ≠ 74) : S.2.1 a = fun _ => 0 := h.2.1 a h1.1 h1.2.1 h1.2.2.1 h1.2.2.2.1 h1.2.2.2.2
theorem I9_F (h : I9 x S) {a k : Nat} {v : Int} (h1 : a ≠ 43 ∧ a ≠ 5 ∧ a ≠ 72 ∧ (a ≠ 0 ∨ k ≠ 10)) (e : (st9 x).1 a k = v) : S.1 a k = v := (h.1 a k h1.1 h1.2.1 h1.2.2.1 h1.2.2.2).trans e
theorem I9_P (h : I9 x S) {a : Nat} {j : Int} {v : Option Nat} (h1 : a ≠ 43 ∨ j ≠ 1) (e : (st9 x).2.2 a j = v) : S.2.2 a j = v := (h.2.2.1 a j h1).trans e
theorem prm_pos (x : Int) : 0 < prm x := by
  have h := prm_is x
  unfold IsP at h
  omega
theorem Row_9 (h : I9 x S) {a N : Nat} (h1 : a + 1 ≠ 6 ∧ a + 1 ≠ 7 ∧ a + 1 ≠ 8 ∧ a + 1 ≠ 73 ∧ a + 1 ≠ 74) (h2 : a ≠ 43 ∧ a ≠ 5 ∧ a ≠ 72 ∧ (a ≠ 0 ∨ 1 ≠ 10)) (hN : N ≤ 64) (e1 : shT 113 a = some (.inl 4)) (e2 : shT 113 (a + 1) = some (.inr (1, N))) (e3 : (st9 x).2.2 a 0 = some (a + 1)) (e4 : (st9 x).1 a 1 = 0) : Row (prm x) (shT 113) S a N := by
  have e : rv S a = pz := I9_A h h1
  refine ⟨⟨e1, e2, I9_P h (Or.inl h2.1) e3⟩, by omega, ?_, ?_, ?_⟩
  · rw [e, plen_pz]; exact I9_F h h2 e4
  · rw [e]; exact Sup_pz
  · rw [e]; exact Red_pz (prm_pos x)
set_option maxHeartbeats 4000000 in
theorem PbK_9 (h : I9 x S) : PbK (shT 113) S := by
  refine ⟨rfl, I9_P h (by decide) rfl, I9_P h (by decide) rfl, I9_P h (by decide) rfl, I9_P h (by decide) rfl, I9_P h (by decide) rfl, I9_P h (by decide) rfl, I9_P h (by decide) rfl, I9_P h (by decide) rfl, I9_P h (by decide) rfl, I9_P h (by decide) rfl, I9_P h (by decide) rfl, rfl, rfl, rfl, rfl, rfl, fun i i0 i1 => ?_, fun i i0 i1 => ?_, fun i i0 i1 => ?_⟩
  · have hi : i = 0 ∨ i = 1 ∨ i = 2 ∨ i = 3 ∨ i = 4 ∨ i = 5 ∨ i = 6 ∨ i = 7 := by omega
    rcases hi with rfl | rfl | rfl | rfl | rfl | rfl | rfl | rfl
    all_goals exact I9_P h (by decide) rfl
  · have hi : i = 0 ∨ i = 1 ∨ i = 2 ∨ i = 3 ∨ i = 4 ∨ i = 5 := by omega
    rcases hi with rfl | rfl | rfl | rfl | rfl | rfl
    all_goals exact I9_P h (by decide) rfl
  · have hi : i = 0 ∨ i = 1 ∨ i = 2 ∨ i = 3 := by omega
    rcases hi with rfl | rfl | rfl | rfl
    all_goals exact I9_P h (by decide) rfl
set_option maxHeartbeats 4000000 in
theorem AlgW_9 (h : I9 x S) : AlgW (prm x) (shT 113) S :=
  ⟨⟨prm_is x, ⟨rfl, I9_F h (by decide) rfl⟩, rfl, I9_P h (by decide) rfl, I9_P h (by decide) rfl, I9_P h (by decide) rfl, I9_P h (by decide) rfl, I9_P h (by decide) rfl, Row_9 h (a := 14) (N := 64) (by decide) (by decide) (by decide) rfl rfl rfl rfl, Row_9 h (a := 16) (N := 64) (by decide) (by decide) (by decide) rfl rfl rfl rfl, Row_9 h (a := 18) (N := 64) (by decide) (by decide) (by decide) rfl rfl rfl rfl, Row_9 h (a := 20) (N := 2) (by decide) (by decide) (by decide) rfl rfl rfl rfl⟩, 22, 24, 26, 28, I9_P h (by decide) rfl, I9_P h (by decide) rfl, I9_P h (by decide) rfl, I9_P h (by decide) rfl, by unfold Perm4; decide, Row_9 h (a := 22) (N := 64) (by decide) (by decide) (by decide) rfl rfl rfl rfl, Row_9 h (a := 24) (N := 64) (by decide) (by decide) (by decide) rfl rfl rfl rfl, Row_9 h (a := 26) (N := 64) (by decide) (by decide) (by decide) rfl rfl rfl rfl, Row_9 h (a := 28) (N := 64) (by decide) (by decide) (by decide) rfl rfl rfl rfl⟩
set_option maxHeartbeats 4000000 in
theorem CF_9 (h : I9 x S) : CF (prm x) (shT 113) S (fun _ => pz) := by
  refine ⟨⟨PbK_9 h, AlgW_9 h, Row_9 h (a := 2) (N := 64) (by decide) (by decide) (by decide) rfl rfl rfl rfl, fun i i0 i1 => ?_⟩, fun i i0 i1 => ?_⟩
  · have hi : i = 0 ∨ i = 1 ∨ i = 2 ∨ i = 3 ∨ i = 4 ∨ i = 5 ∨ i = 6 ∨ i = 7 := by omega
    rcases hi with rfl | rfl | rfl | rfl | rfl | rfl | rfl | rfl
    all_goals exact Row_9 h (by decide) (by decide) (by decide) rfl rfl rfl rfl
  · have hi : i = 0 ∨ i = 1 ∨ i = 2 ∨ i = 3 ∨ i = 4 ∨ i = 5 ∨ i = 6 ∨ i = 7 := by omega
    rcases hi with rfl | rfl | rfl | rfl | rfl | rfl | rfl | rfl
    all_goals exact I9_A h (by decide)
set_option maxHeartbeats 4000000 in
theorem CP_9 (h : I9 x S) : CP (prm x) (shT 113) S (pz, pz, 0) := by
  have r1 : S.2.1 31 = pz := I9_A h (by decide)
  have r2 : S.2.1 32 = pz := I9_A h (by decide)
  exact ⟨⟨rfl, I9_P h (by decide) rfl, I9_P h (by decide) rfl, I9_P h (by decide) rfl, I9_P h (by decide) rfl, I9_P h (by decide) rfl, I9_P h (by decide) rfl, rfl, rfl, I9_F h (by decide) rfl, by decide, by rw [r1]; exact Red_pz (prm_pos x), by rw [r2]; exact Red_pz (prm_pos x), Row_9 h (a := 33) (N := 64) (by decide) (by decide) (by decide) rfl rfl rfl rfl, Row_9 h (a := 35) (N := 64) (by decide) (by decide) (by decide) rfl rfl rfl rfl⟩, r1, r2, 37, 39, 41, I9_P h (by decide) rfl, I9_P h (by decide) rfl, I9_P h (by decide) rfl, by unfold Perm3; decide, Row_9 h (a := 37) (N := 64) (by decide) (by decide) (by decide) rfl rfl rfl rfl, Row_9 h (a := 39) (N := 64) (by decide) (by decide) (by decide) rfl rfl rfl rfl, Row_9 h (a := 41) (N := 64) (by decide) (by decide) (by decide) rfl rfl rfl rfl⟩
theorem CV_9 (h : I9 x S) : CV (shT 113) S (0, pz, pz) := ⟨I9_F h (by decide) rfl, by decide, fun i (i0 : 0 ≤ i) (i1 : i < 0) => by omega⟩
theorem TxW_9 (h : I9 x S) {a : Nat} (h1 : ∀ b : Nat, a ≤ b → b ≤ a + 3 → b ≠ 6 ∧ b ≠ 7 ∧ b ≠ 8 ∧ b ≠ 73 ∧ b ≠ 74) (h2 : a ≠ 43 ∧ a ≠ 5 ∧ a ≠ 72 ∧ a ≠ 0) (e1 : shT 113 a = some (.inl 7)) (e2 : shT 113 (a + 1) = some (.inr (1, 160))) (e3 : shT 113 (a + 2) = some (.inr (1, 3))) (e4 : shT 113 (a + 3) = some (.inr (1, 160))) (q0 : (st9 x).2.2 a 0 = some (a + 1)) (q2 : (st9 x).2.2 a 2 = some (a + 2)) (q4 : (st9 x).2.2 a 4 = some (a + 3)) (f : ∀ k : Nat, (st9 x).1 a k = 0) : TxW (shT 113) S a := by
  have F : ∀ k : Nat, S.1 a k = 0 := fun k => I9_F h ⟨h2.1, h2.2.1, h2.2.2.1, Or.inl h2.2.2.2⟩ (f k)
  have A : ∀ b : Nat, a ≤ b → b ≤ a + 3 → S.2.1 b = fun _ => 0 := fun b b0 b1 => I9_A h (h1 b b0 b1)
  refine ⟨e1, e2, e3, e4, I9_P h (Or.inl h2.1) q0, I9_P h (Or.inl h2.1) q2, I9_P h (Or.inl h2.1) q4, by rw [F 1]; decide, by rw [F 3]; decide, by rw [F 5]; decide, ?_, ?_, ?_⟩
  · rw [A (a + 2) (by omega) (by omega)]; exact fun _ => (show 0 ≤ (0 : Int) ∧ (0 : Int) ≤ 160 by decide)
  · rw [A (a + 1) (by omega) (by omega)]; exact fun _ => (show -2147483648 ≤ (0 : Int) ∧ (0 : Int) ≤ 2147483647 by decide)
  · rw [A (a + 3) (by omega) (by omega)]; exact fun _ => (show -2147483648 ≤ (0 : Int) ∧ (0 : Int) ≤ 2147483647 by decide)
theorem bt_zn {xs : Int → Int} : bt 0 xs = fun _ => -1 := by
  funext i
  unfold bt
  rw [if_neg (by omega)]
set_option maxHeartbeats 4000000 in
theorem CT_9 (h : I9 x S) : CT (shT 113) S (0, (fun _ => -1), 1, 0, fun _ => X0T) := by
  obtain ⟨t1, t2, t3, t4, t5, t6, t7, t8, t9, t10⟩ := h.2.2.2.2.1
  refine ⟨⟨rfl, t2, t3, t4, rfl, rfl, rfl, t8, t9, t10⟩, bt_zn, h.2.2.2.1, I9_F h (by decide) rfl, by decide, by decide, fun i i0 i1 => ?_, fun i (i0 : 0 ≤ i) (i1 : i < 1) => ?_, fun i _ => ?_, rfl, I9_P h (by decide) rfl⟩
  · have hi : i = 0 ∨ i = 1 ∨ i = 2 ∨ i = 3 ∨ i = 4 ∨ i = 5 := by omega
    rcases hi with rfl | rfl | rfl | rfl | rfl | rfl
    · show TxW (shT 113) S 72
      exact TxW_sm (fun a a1 a2 => shT_lt (by omega) (by omega)) (fun _ _ _ => Eqa_rf) h.2.2.2.2.2.1
    all_goals exact TxW_9 h (fun b b0 b1 => by have b0' : _ ≤ b := b0; have b1' : b ≤ _ := b1; simp only [ta] at b0' b1'; omega) (by decide) rfl rfl rfl rfl rfl rfl rfl (fun _ => rfl)
  · have hi : i = 0 := by omega
    subst hi
    exact h.2.2.2.2.2.2
  · rw [I9_A h (a := 10) (by decide)]
theorem ShW_9 (h : I9 x S) {a : Nat} (h1 : a + 1 ≠ 6 ∧ a + 1 ≠ 7 ∧ a + 1 ≠ 8 ∧ a + 1 ≠ 73 ∧ a + 1 ≠ 74) (h2 : a ≠ 43 ∧ a ≠ 5 ∧ a ≠ 72 ∧ a ≠ 0) (e1 : shT 113 a = some (.inl 5)) (e2 : shT 113 (a + 1) = some (.inr (1, 40))) (q : (st9 x).2.2 a 2 = some (a + 1)) (f0 : (st9 x).1 a 0 = -1) (f1 : (st9 x).1 a 1 = 0) : ShW (shT 113) S a := by
  have F : ∀ (k : Nat) (v : Int), (st9 x).1 a k = v → S.1 a k = v := fun k v e => I9_F h ⟨h2.1, h2.2.1, h2.2.2.1, Or.inl h2.2.2.2⟩ e
  refine ⟨e1, e2, I9_P h (Or.inl h2.1) q, by rw [F 0 _ f0]; decide, by rw [F 1 _ f1]; decide, ?_⟩
  rw [I9_A h h1]
  exact fun _ _ => rfl
set_option maxHeartbeats 4000000 in
theorem CH_9 (h : I9 x S) : CH (shT 113) S ((fun _ => -1), pz, fun _ => pz) := by
  refine ⟨fun i i0 i1 => ?_, fun i j i0 i1 => ?_, fun i i0 i1 => ⟨?_, fun q => absurd rfl q⟩⟩
  · have hi : i = 0 ∨ i = 1 ∨ i = 2 ∨ i = 3 := by omega
    rcases hi with rfl | rfl | rfl | rfl
    all_goals exact ShW_9 h (by decide) (by decide) rfl rfl rfl rfl rfl
  · have hi : i = 0 ∨ i = 1 ∨ i = 2 ∨ i = 3 := by omega
    rcases hi with rfl | rfl | rfl | rfl
    all_goals (rw [I9_A h (by decide)]; exact (show -2147483648 ≤ (0 : Int) ∧ (0 : Int) ≤ 2147483647 by decide))
  · have hi : i = 0 ∨ i = 1 ∨ i = 2 ∨ i = 3 := by omega
    rcases hi with rfl | rfl | rfl | rfl
    all_goals exact I9_F h (by decide) rfl
theorem IC_9 (h : I9 x S) : IC (prm x) (shT 113) S (fun _ => pz) (pz, pz, 0) (0, pz, pz) (0, (fun _ => -1), 1, 0, fun _ => X0T) ((fun _ => -1), pz, fun _ => pz) 0 :=
  ⟨CF_9 h, CP_9 h, CV_9 h, CT_9 h, CH_9 h, I9_F h (by decide) rfl⟩
set_option maxHeartbeats 4000000 in
theorem Eqa_10 {a : Nat} (ha : a < 96 ∨ 113 ≤ a) : Eqa S (st10 x S) a := by
  have h96 : a ≠ 96 := by omega
  have h102 : a ≠ 102 := by omega
  have h103 : a ≠ 103 := by omega
  unfold st10
  refine Eqa_tr ?_ (Eqa_F h96)
  refine Eqa_tr ?_ (Eqa_sA h103)
  refine Eqa_tr ?_ (Eqa_sA h102)
  refine Eqa_tr ?_ (Eqa_sA h102)
  refine Eqa_tr ?_ (Eqa_sA h102)
  refine Eqa_tr ?_ (Eqa_sA h102)
  refine Eqa_tr ?_ (Eqa_sA h102)
  refine Eqa_tr ?_ (Eqa_sA h102)
  refine Eqa_tr ?_ (Eqa_sA h102)
  refine Eqa_tr ?_ (Eqa_sA h102)
  refine Eqa_tr ?_ (Eqa_sA h102)
  refine Eqa_tr ?_ (Eqa_sA h102)
  refine Eqa_tr ?_ (Eqa_sA h102)
  refine Eqa_tr ?_ (Eqa_sA h102)
  refine Eqa_tr ?_ (Eqa_sA h102)
  refine Eqa_tr ?_ (Eqa_sA h102)
  refine Eqa_tr ?_ (Eqa_sA h102)
  refine Eqa_tr ?_ (Eqa_sA h102)
  refine Eqa_tr ?_ (Eqa_sA h102)
  refine Eqa_tr ?_ (Eqa_sA h102)
  refine Eqa_tr ?_ (Eqa_sA h102)
  refine Eqa_tr ?_ (Eqa_sA h102)
  refine Eqa_tr ?_ (Eqa_sA h102)
  refine Eqa_tr ?_ (Eqa_sA h102)
  refine Eqa_tr ?_ (Eqa_sA h102)
  refine Eqa_tr ?_ (Eqa_sA h102)
  refine Eqa_tr ?_ (Eqa_sA h102)
  refine Eqa_tr ?_ (Eqa_sA h102)
  refine Eqa_tr ?_ (Eqa_sA h102)
  refine Eqa_tr ?_ (Eqa_sA h102)
  refine Eqa_tr ?_ (Eqa_sA h102)
  refine Eqa_tr ?_ (Eqa_sA h102)
  refine Eqa_tr ?_ (Eqa_sA h102)
  refine Eqa_tr ?_ (Eqa_sA h102)
  refine Eqa_tr ?_ (Eqa_sA h102)
  refine Eqa_tr ?_ (Eqa_sA h102)
  refine Eqa_tr ?_ (Eqa_sA h102)
  refine Eqa_tr ?_ (Eqa_sA h102)
  refine Eqa_tr ?_ (Eqa_sA h102)
  refine Eqa_tr ?_ (Eqa_sA h102)
  refine Eqa_tr ?_ (Eqa_sA h102)
  refine Eqa_tr ?_ (Eqa_sA h102)
  refine Eqa_tr ?_ (Eqa_F h96)
  refine Eqa_tr ?_ (Eqa_P h96)
  refine Eqa_tr ?_ (Eqa_P h96)
  refine Eqa_tr ?_ (Eqa_P h96)
  refine Eqa_tr ?_ (Eqa_P h96)
  refine Eqa_tr ?_ (Eqa_P h96)
  refine Eqa_tr ?_ (Eqa_P h96)
  refine Eqa_tr ?_ (Eqa_P h96)
  refine Eqa_tr ?_ (Eqa_P h96)
  refine Eqa_tr ?_ (Eqa_P h96)
  refine Eqa_tr ?_ (Eqa_P h96)
  refine Eqa_tr ?_ (Eqa_P h96)
  refine Eqa_tr ?_ (Eqa_P h96)
  refine Eqa_tr ?_ (Eqa_P h96)
  refine Eqa_tr ?_ (Eqa_P h96)
  refine Eqa_tr ?_ (Eqa_P h96)
  refine Eqa_tr ?_ (Eqa_P h96)
  exact Eqa_rf
def X102 : Int → Int := (iup (iup (iup (iup (iup (iup (iup (iup (iup (iup (iup (iup (iup (iup (iup (iup (iup (iup (iup (iup (iup (iup (iup (iup (iup (iup (iup (iup (iup (iup (iup (iup (iup (iup (iup (iup (iup (iup (iup (iup pz 0 112) 8 109) 16 115) 24 43) 32 56) 1 108) 9 59) 17 105) 25 57) 33 48) 2 97) 10 115) 18 122) 26 59) 34 59) 3 105) 11 112) 19 101) 27 116) 35 32) 4 110) 12 108) 20 42) 28 117) 36 32) 5 32) 13 105) 21 99) 29 114) 37 32) 6 110) 14 116) 22 117) 30 110) 38 32) 7 42) 15 32) 23 116) 31 32) 39 32)
theorem iup_bd {lo hi i v : Int} {xs : Int → Int} (h : ∀ j : Int, lo ≤ xs j ∧ xs j ≤ hi) (hv : lo ≤ v ∧ v ≤ hi) : ∀ j : Int, lo ≤ iup xs i v j ∧ iup xs i v j ≤ hi := fun j => by
  unfold iup
  by_cases c : j = i
  · rw [if_pos c]; exact hv
  · rw [if_neg c]; exact h j
theorem X102_bd : ∀ j : Int, 0 ≤ X102 j ∧ X102 j ≤ 255 := by
  unfold X102
  iterate 40 refine iup_bd ?_ (by decide)
  exact fun _ => (show 0 ≤ (0 : Int) ∧ (0 : Int) ≤ 255 by decide)
theorem sF_t {S : SS} {a b k : Nat} {v : Int} {xs : Int → Int} (h : S.2.1 a = xs) : (setF S b k v).2.1 a = xs := h
theorem sP_t {S : SS} {a b : Nat} {k : Int} {v : Option Nat} {xs : Int → Int} (h : S.2.1 a = xs) : (setP S b k v).2.1 a = xs := h
theorem sA_n {S : SS} {a b : Nat} {i v : Int} {xs : Int → Int} (hn : a ≠ b) (h : S.2.1 a = xs) : (setA S b i v).2.1 a = xs := (putA_ne hn).trans h
theorem sA_t {S : SS} {a : Nat} {i v : Int} {xs : Int → Int} (h : S.2.1 a = xs) : (setA S a i v).2.1 a = iup xs i v := by
  rw [← h]; exact if_pos rfl
theorem a102_10 (h : S.2.1 102 = pz) : (st10 x S).2.1 102 = X102 := by
  unfold st10 X102
  refine sF_t ?_
  refine sA_n (by decide) ?_
  refine sA_t ?_
  refine sA_t ?_
  refine sA_t ?_
  refine sA_t ?_
  refine sA_t ?_
  refine sA_t ?_
  refine sA_t ?_
  refine sA_t ?_
  refine sA_t ?_
  refine sA_t ?_
  refine sA_t ?_
  refine sA_t ?_
  refine sA_t ?_
  refine sA_t ?_
  refine sA_t ?_
  refine sA_t ?_
  refine sA_t ?_
  refine sA_t ?_
  refine sA_t ?_
  refine sA_t ?_
  refine sA_t ?_
  refine sA_t ?_
  refine sA_t ?_
  refine sA_t ?_
  refine sA_t ?_
  refine sA_t ?_
  refine sA_t ?_
  refine sA_t ?_
  refine sA_t ?_
  refine sA_t ?_
  refine sA_t ?_
  refine sA_t ?_
  refine sA_t ?_
  refine sA_t ?_
  refine sA_t ?_
  refine sA_t ?_
  refine sA_t ?_
  refine sA_t ?_
  refine sA_t ?_
  refine sA_t ?_
  refine sF_t ?_
  refine sP_t ?_
  refine sP_t ?_
  refine sP_t ?_
  refine sP_t ?_
  refine sP_t ?_
  refine sP_t ?_
  refine sP_t ?_
  refine sP_t ?_
  refine sP_t ?_
  refine sP_t ?_
  refine sP_t ?_
  refine sP_t ?_
  refine sP_t ?_
  refine sP_t ?_
  refine sP_t ?_
  refine sP_t ?_
  exact h
theorem B0m_eq : B0m = bt 40 (fun i => X102 (160 * 0 + i)) := rfl
set_option maxHeartbeats 4000000 in
theorem IM_10 (h : I9 x S) (hF : Fr S 96) : IM (prm x) (shT 113) (st10 x S) (fun _ => pz) (pz, pz, 0) (0, pz, pz) (0, (fun _ => -1), 1, 0, fun _ => X0T) ((fun _ => -1), pz, fun _ => pz) 0 := by
  have f : ∀ k : Nat, S.1 96 k = 0 := (hF 96 (by decide)).1
  have a : ∀ b : Nat, 96 ≤ b → S.2.1 b = fun _ => 0 := fun b hb => (hF b hb).2.1
  have a97 : (st10 x S).2.1 97 = pz := a 97 (by decide)
  have a98 : (st10 x S).2.1 98 = pz := a 98 (by decide)
  have a99 : (st10 x S).2.1 99 = pz := a 99 (by decide)
  have a104 : (st10 x S).2.1 104 = pz := a 104 (by decide)
  have a105 : (st10 x S).2.1 105 = pz := a 105 (by decide)
  have a106 : (st10 x S).2.1 106 = pz := a 106 (by decide)
  have a107 : (st10 x S).2.1 107 = pz := a 107 (by decide)
  have a109 : (st10 x S).2.1 109 = pz := a 109 (by decide)
  have a110 : (st10 x S).2.1 110 = pz := a 110 (by decide)
  have a111 : (st10 x S).2.1 111 = pz := a 111 (by decide)
  have a112 : (st10 x S).2.1 112 = pz := a 112 (by decide)
  have a103 : (st10 x S).2.1 103 = iup pz 0 40 := by
    show iup (S.2.1 103) 0 40 = _
    rw [a 103 (by decide)]; rfl
  have a102 := a102_10 (x := x) (a 102 (by decide))
  have R : Red (prm x) pz := Red_pz (prm_pos x)
  have f3 : (st10 x S).1 96 3 = 0 := f 3
  have f6 : (st10 x S).1 96 6 = 0 := f 6
  have f12 : (st10 x S).1 96 12 = 0 := f 12
  have f14 : (st10 x S).1 96 14 = 0 := f 14
  have f29 : (st10 x S).1 96 29 = 0 := f 29
  have f1 : (st10 x S).1 96 1 = prm x := rfl
  have f11 : (st10 x S).1 96 11 = 1 := rfl
  have p2 : (st10 x S).2.2 96 2 = some 97 := rfl
  have p4 : (st10 x S).2.2 96 4 = some 98 := rfl
  have p5 : (st10 x S).2.2 96 5 = some 99 := rfl
  have p7 : (st10 x S).2.2 96 7 = some 100 := rfl
  have p8 : (st10 x S).2.2 96 8 = some 101 := rfl
  have p9 : (st10 x S).2.2 96 9 = some 102 := rfl
  have p10 : (st10 x S).2.2 96 10 = some 103 := rfl
  have p13 : (st10 x S).2.2 96 13 = some 104 := rfl
  have p30 : (st10 x S).2.2 96 30 = some 105 := rfl
  have p31 : (st10 x S).2.2 96 31 = some 106 := rfl
  have p32 : (st10 x S).2.2 96 32 = some 107 := rfl
  have p33 : (st10 x S).2.2 96 33 = some 108 := rfl
  have p35 : (st10 x S).2.2 96 35 = some 109 := rfl
  have p36 : (st10 x S).2.2 96 36 = some 110 := rfl
  have p37 : (st10 x S).2.2 96 37 = some 111 := rfl
  have p38 : (st10 x S).2.2 96 38 = some 112 := rfl
  generalize st10 x S = S1 at *
  have z : ∀ (lo hi : Int), lo ≤ 0 → 0 ≤ hi → ∀ i : Int, lo ≤ pz i ∧ pz i ≤ hi := fun lo hi h1 h2 i => ⟨h1, h2⟩
  refine ⟨⟨⟨prm_is x, rfl, f1, p2, rfl, by rw [a97]; exact R⟩, fun i i0 i1 => ⟨?_, Sup_pz⟩⟩, ⟨⟨p30, p31, rfl, rfl, f29, by decide, by rw [a105]; exact R, by rw [a106]; exact R⟩, a105, a106⟩, ⟨⟨rfl, p4, p5, rfl, rfl, f3, by decide, by rw [a98]; exact z 0 5 (by decide) (by decide), by rw [a99]; exact z 0 32 (by decide) (by decide)⟩, fun i (i0 : 0 ≤ i) (i1 : i < 0) => by omega⟩, ⟨⟨rfl, p9, p10, rfl, rfl, f11, f12, by decide, by decide, by rw [a102]; exact X102_bd, by rw [a103]; exact iup_bd (z 0 160 (by decide) (by decide)) (by decide)⟩, ⟨rfl, p13, rfl, f14, by decide, by rw [a104]; exact z 0 255 (by decide) (by decide)⟩, bt_zn, fun t (t0 : 0 ≤ t) (t1 : t < 1) => ?_⟩, ⟨⟨rfl, p35, p36, p37, p38, rfl, rfl, rfl, rfl, by rw [a109]; exact z 0 1 (by decide) (by decide), by rw [a110]; exact z (-1) 2 (by decide) (by decide), by rw [a111]; exact z _ _ (by decide) (by decide), by rw [a109, a111]; exact fun i _ => ⟨Int.le_refl _, (show (0 : Int) ≤ 40 by decide)⟩, by rw [a112]; exact z _ _ (by decide) (by decide)⟩, fun s _ _ => Or.inl ⟨by rw [a109]; rfl, rfl⟩⟩, f6, ⟨p7, p8, rfl, rfl⟩, ⟨p32, p33, rfl, rfl, by rw [a107]; exact R⟩⟩
  · show mg S1 i = pz
    unfold mg mrow
    rw [a97]
    funext j
    by_cases c : 0 ≤ j ∧ j < 80
    · rw [if_pos c]; rfl
    · rw [if_neg c]; rfl
  · have ht : t = 0 := by omega
    subst ht
    have e : mtB S1 0 = B0m := by
      unfold mtB
      rw [a102, a103, B0m_eq, iup_at]
    rw [e]
    exact ptx_B0m
theorem INV_0 (h : I9 x S) (hF : Fr S 96) : INV (prm x) 113 (shT 113) (st10 x S) := by
  have hI := IC_md (fun a ha => Eqa_10 (x := x) (S := S) ha) (IC_9 h)
  refine ⟨((fun _ => pz), (pz, pz, 0), (0, pz, pz), (0, (fun _ => -1), 1, 0, fun _ => X0T), ((fun _ => -1), pz, fun _ => pz), 0), hI, IM_10 h hF, fun a ha => ?_, rfl⟩
  have e := Eqa_10 (x := x) (S := S) (a := a) (Or.inr ha)
  obtain ⟨f1, f2, f3⟩ := hF a (by omega)
  exact ⟨fun k => (e.1 k).trans (f1 k), e.2.1.trans f2, (funext e.2.2).trans f3⟩
end ST0
