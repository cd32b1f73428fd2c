/-! what is read can be worked out -/
theorem prs_val {tk env : Int → Int} {tn : Nat → Int} (ht : ∀ k : Nat, tn k ≤ 10999) (he : ∀ i : Int, IsI (env i)) (_h : tk = tk) : ∀ (f nt k o k' : Nat) (l : List Int), prs tn f nt k o = .inr (k', l) → (nt ≤ 5 → ∃ v : Int, Val env l v) ∧ (6 ≤ nt → ∀ v0 : Int, IsI v0 → ∃ v : Int, VaL env l v0 v)
  | 0, nt, k, o, k', l, h => by cases h
  | f + 1, nt, k, o, k', l, h => by
    have ih := prs_val (tk := tk) ht he rfl f
    have two : ∀ (n1 n2 : Nat), n1 ≤ 5 → 6 ≤ n2 → bnd (prs tn f n1 k o) (fun k1 l1 => bnd (prs tn f n2 k1 o) (fun k2 l2 => .inr (k2, l1 ++ l2))) = .inr (k', l) → ∃ v : Int, Val env l v := fun n1 n2 a1 a2 h => by
      obtain ⟨k1, l1, e1, h⟩ := bnd_inr h
      obtain ⟨k2, l2, e2, h⟩ := bnd_inr h
      cases h
      obtain ⟨v1, w1⟩ := (ih _ _ _ _ _ e1).1 a1
      obtain ⟨v2, w2⟩ := (ih _ _ _ _ _ e2).2 a2 v1 w1.2
      exact ⟨v2, Val_app w1 w2⟩
    have loop : ∀ (n1 n2 : Nat) (s : Int), n1 ≤ 5 → 6 ≤ n2 → (s = -11 ∨ s = -12 ∨ s = -14 ∨ s = -15 ∨ s = -16 ∨ s = -17 ∨ s = -18) → bnd (prs tn f n1 (k + 1) o) (fun k1 l1 => bnd (prs tn f n2 k1 o) (fun k2 l2 => .inr (k2, l1 ++ (s :: l2)))) = .inr (k', l) → ∀ v0 : Int, IsI v0 → ∃ v : Int, VaL env l v0 v := fun n1 n2 s a1 a2 hs h v0 hv => by
      obtain ⟨k1, l1, e1, h⟩ := bnd_inr h
      obtain ⟨k2, l2, e2, h⟩ := bnd_inr h
      cases h
      obtain ⟨v1, w1⟩ := (ih _ _ _ _ _ e1).1 a1
      obtain ⟨v2, w2⟩ := (ih _ _ _ _ _ e2).2 a2 (of2 s v0 v1) of2_bd
      exact ⟨v2, VaL_step hs w1 w2⟩
    match nt, h with
    | 0, h =>
      refine ⟨fun _ => ?_, fun z => absurd z (by omega)⟩
      unfold prs at h
      by_cases c1 : tn k = 45 ∧ o < 5
      · rw [if_pos c1] at h
        obtain ⟨k1, l1, e1, h⟩ := bnd_inr h
        cases h
        obtain ⟨v1, w1⟩ := (ih _ _ _ _ _ e1).1 (by omega)
        exact ⟨_, Val_neg w1⟩
      · rw [if_neg c1] at h
        by_cases c2 : tn k = 40 ∧ o < 5
        · rw [if_pos c2] at h
          obtain ⟨k1, l1, e1, h⟩ := bnd_inr h
          by_cases c3 : tn k1 = 41
          · rw [if_pos c3] at h
            cases h
            exact (ih _ _ _ _ _ e1).1 (by omega)
          · rw [if_neg c3] at h; cases h
        · rw [if_neg c2] at h
          by_cases c3 : 1000 ≤ tn k
          · rw [if_pos c3] at h
            cases h
            have := ht k
            exact ⟨_, Val_num (by omega)⟩
          · rw [if_neg c3] at h
            by_cases c4 : 270 ≤ tn k ∧ tn k ≤ 275
            · rw [if_pos c4] at h
              cases h
              have e : (269 - tn k : Int) = -1 - (tn k - 270) := by omega
              rw [e]
              exact ⟨_, Val_nam (by omega) (he _)⟩
            · rw [if_neg c4] at h; cases h
    | 1, h => exact ⟨fun _ => two 0 6 (by omega) (by omega) h, fun z => absurd z (by omega)⟩
    | 2, h => exact ⟨fun _ => two 1 7 (by omega) (by omega) h, fun z => absurd z (by omega)⟩
    | 3, h =>
      refine ⟨fun _ => ?_, fun z => absurd z (by omega)⟩
      unfold prs at h
      by_cases c1 : tn k = 265 ∧ o < 5
      · rw [if_pos c1] at h
        obtain ⟨k1, l1, e1, h⟩ := bnd_inr h
        cases h
        obtain ⟨v1, w1⟩ := (ih _ _ _ _ _ e1).1 (by omega)
        exact ⟨_, Val_not w1⟩
      · rw [if_neg c1] at h
        obtain ⟨k1, l1, e1, h⟩ := bnd_inr h
        obtain ⟨v1, w1⟩ := (ih _ _ _ _ _ e1).1 (by omega)
        by_cases c2 : tn k1 = 60
        · rw [if_pos c2] at h
          obtain ⟨k2, l2, e2, h⟩ := bnd_inr h
          cases h
          obtain ⟨v2, w2⟩ := (ih _ _ _ _ _ e2).1 (by omega)
          exact ⟨_, Val_step (by omega) w1 w2⟩
        · rw [if_neg c2] at h
          by_cases c3 : tn k1 = 61
          · rw [if_pos c3] at h
            obtain ⟨k2, l2, e2, h⟩ := bnd_inr h
            cases h
            obtain ⟨v2, w2⟩ := (ih _ _ _ _ _ e2).1 (by omega)
            exact ⟨_, Val_step (by omega) w1 w2⟩
          · rw [if_neg c3] at h
            cases h
            exact ⟨v1, w1⟩
    | 4, h => exact ⟨fun _ => two 3 8 (by omega) (by omega) h, fun z => absurd z (by omega)⟩
    | 5, h => exact ⟨fun _ => two 4 9 (by omega) (by omega) h, fun z => absurd z (by omega)⟩
    | 6, h =>
      refine ⟨fun z => absurd z (by omega), fun _ v0 hv => ?_⟩
      unfold prs at h
      by_cases c1 : tn k = 42
      · rw [if_pos c1] at h
        exact loop 0 6 (-18) (by omega) (by omega) (by omega) h v0 hv
      · rw [if_neg c1] at h
        cases h
        exact ⟨v0, VaL_nil hv⟩
    | 7, h =>
      refine ⟨fun z => absurd z (by omega), fun _ v0 hv => ?_⟩
      unfold prs at h
      by_cases c1 : tn k = 43
      · rw [if_pos c1] at h
        exact loop 1 7 (-16) (by omega) (by omega) (by omega) h v0 hv
      · rw [if_neg c1] at h
        by_cases c2 : tn k = 45
        · rw [if_pos c2] at h
          exact loop 1 7 (-17) (by omega) (by omega) (by omega) h v0 hv
        · rw [if_neg c2] at h
          cases h
          exact ⟨v0, VaL_nil hv⟩
    | 8, h =>
      refine ⟨fun z => absurd z (by omega), fun _ v0 hv => ?_⟩
      unfold prs at h
      by_cases c1 : tn k = 264
      · rw [if_pos c1] at h
        exact loop 3 8 (-12) (by omega) (by omega) (by omega) h v0 hv
      · rw [if_neg c1] at h
        cases h
        exact ⟨v0, VaL_nil hv⟩
    | 9, h =>
      refine ⟨fun z => absurd z (by omega), fun _ v0 hv => ?_⟩
      unfold prs at h
      by_cases c1 : tn k = 263
      · rw [if_pos c1] at h
        exact loop 4 9 (-11) (by omega) (by omega) (by omega) h v0 hv
      · rw [if_neg c1] at h
        cases h
        exact ⟨v0, VaL_nil hv⟩
    | n + 10, h => cases h
theorem prt_inr {tk : Nat → Int} {key : Int} {k k' : Nat} {l : List Int} (h : prt tk key k = .inr (k', l)) : ∃ k1 : Nat, prs tk 2000 5 (k + 1) 0 = .inr (k1, l) := by
  unfold prt at h
  by_cases c : tk k = key
  · rw [if_pos c] at h
    obtain ⟨k1, l1, e1, h⟩ := bnd_inr h
    by_cases d : tk k1 = 59
    · rw [if_pos d] at h
      cases h
      exact ⟨k1, e1⟩
    · rw [if_neg d] at h; cases h
  · rw [if_neg c] at h; cases h
theorem Sum_cases {A B : Type} (x : A ⊕ B) : (∃ a : A, x = .inl a) ∨ ∃ b : B, x = .inr b := by
  cases x with
  | inl a => exact Or.inl ⟨a, rfl⟩
  | inr b => exact Or.inr ⟨b, rfl⟩
/-- every part of a TEXT gives a number -/
theorem ptx_val {tn : Nat → Int} {env : Int → Int} {X : List Int × List Int × List Int} {i : Int} (ht : ∀ k : Nat, tn k ≤ 10999) (he : ∀ i : Int, IsI (env i)) (h : ptx tn = .inr X) : Val env (tprt X i) (sayv env (tprt X i)) := by
  have hp : ∀ (key : Int) (k k' : Nat) (l : List Int), prt tn key k = .inr (k', l) → Val env l (sayv env l) := fun key k k' l e => by
    obtain ⟨k1, e1⟩ := prt_inr e
    obtain ⟨v, hv⟩ := (prs_val (tk := env) ht he rfl 2000 5 (k + 1) 0 k1 l e1).1 (by omega)
    rw [Val_say hv]; exact hv
  rcases Sum_cases (prt tn 260 0) with ⟨kf, p1⟩ | ⟨⟨k1, l0⟩, p1⟩
  · rw [ptx_1 p1] at h; cases h
  · rcases Sum_cases (prt tn 261 k1) with ⟨kf, p2⟩ | ⟨⟨k2, l1⟩, p2⟩
    · rw [ptx_2 p1 p2] at h; cases h
    · rcases Sum_cases (prt tn 262 k2) with ⟨kf, p3⟩ | ⟨⟨k3, l2⟩, p3⟩
      · rw [ptx_3 p1 p2 p3] at h; cases h
      · rw [ptx_4 p1 p2 p3] at h
        by_cases c : tn k3 = 256
        · rw [if_pos c] at h
          cases h
          have a0 := hp 260 0 k1 l0 p1
          have a1 := hp 261 k1 k2 l1 p2
          have a2 := hp 262 k2 k3 l2 p3
          unfold tprt
          by_cases c0 : i = 0
          · rw [if_pos c0]; exact a0
          · rw [if_neg c0]
            by_cases c1 : i = 1
            · rw [if_pos c1]; exact a1
            · rw [if_neg c1]; exact a2
        · rw [if_neg c] at h; cases h
