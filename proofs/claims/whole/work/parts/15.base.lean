/-! base: lengths of rows, clipped rows; states of rows -/
theorem iup_at {xs : Int → Int} {i v : Int} : iup xs i v i = v := if_pos rfl
theorem iup_ne {xs : Int → Int} {i v j : Int} (h : j ≠ i) : iup xs i v j = xs j := if_neg h
/-- 1 more than the greatest place below N with a number that isn't 0 -/
def plen (xs : Int → Int) : Nat → Int
  | 0 => 0
  | n + 1 => if xs (n : Int) = 0 then plen xs n else (n : Int) + 1
theorem plen_bd (xs : Int → Int) : ∀ N : Nat, 0 ≤ plen xs N ∧ plen xs N ≤ N
  | 0 => ⟨Int.le_refl _, Int.le_refl _⟩
  | n + 1 => by
    have h := plen_bd xs n
    unfold plen
    by_cases hx : xs (n : Int) = 0
    · rw [if_pos hx]; omega
    · rw [if_neg hx]; omega
theorem plen_zero {xs : Int → Int} : ∀ {N : Nat} {j : Int}, plen xs N ≤ j → j < N → xs j = 0
  | 0, j, h1, h2 => by unfold plen at h1; omega
  | n + 1, j, h1, h2 => by
    unfold plen at h1
    by_cases hx : xs (n : Int) = 0
    · rw [if_pos hx] at h1
      by_cases hj : j = n
      · rw [hj]; exact hx
      · exact plen_zero h1 (by omega)
    · rw [if_neg hx] at h1
      omega
theorem plen_lead {xs : Int → Int} : ∀ {N : Nat}, 0 < plen xs N → xs (plen xs N - 1) ≠ 0
  | 0, h => by unfold plen at h; omega
  | n + 1, h => by
    unfold plen at h ⊢
    by_cases hx : xs (n : Int) = 0
    · rw [if_pos hx] at h ⊢
      exact plen_lead h
    · rw [if_neg hx]
      rw [show (n : Int) + 1 - 1 = n by omega]
      exact hx
theorem plen_eq {xs : Int → Int} {N : Nat} {L : Int} (h0 : 0 ≤ L) (hN : L ≤ N) (hz : ∀ j : Int, L ≤ j → j < N → xs j = 0) (hl : L = 0 ∨ xs (L - 1) ≠ 0) : plen xs N = L := by
  have hb := plen_bd xs N
  rcases Int.lt_trichotomy (plen xs N) L with h | h | h
  · rcases hl with hl | hl
    · omega
    · exact absurd (plen_zero (j := L - 1) (N := N) (by omega) (by omega)) hl
  · exact h
  · exact absurd (hz (plen xs N - 1) (by omega) (by omega)) (plen_lead (by omega))
theorem plen_le {xs : Int → Int} {N : Nat} {L : Int} (h0 : 0 ≤ L) (hz : ∀ j : Int, L ≤ j → j < N → xs j = 0) : plen xs N ≤ L := by
  have hb := plen_bd xs N
  rcases Int.lt_or_le L (plen xs N) with h | h
  · exact absurd (hz (plen xs N - 1) (by omega) (by omega)) (plen_lead (by omega))
  · exact h
theorem plen_congr {xs ys : Int → Int} {N : Nat} (h : ∀ j : Int, 0 ≤ j → j < N → xs j = ys j) : plen xs N = plen ys N := by
  have hb := plen_bd ys N
  refine plen_eq hb.1 hb.2 (fun j h1 h2 => by rw [h j (by omega) h2]; exact plen_zero h1 h2) ?_
  by_cases h0 : plen ys N = 0
  · exact Or.inl h0
  · refine Or.inr ?_
    rw [h _ (by omega) (by omega)]
    exact plen_lead (by omega)
def pz : Int → Int := fun _ => 0
theorem plen_pz (N : Nat) : plen pz N = 0 := plen_eq (by omega) (by omega) (fun _ _ _ => rfl) (Or.inl rfl)
/-- nothing outside 0 .. N - 1 -/
def Sup (xs : Int → Int) (N : Nat) : Prop := ∀ j : Int, (j < 0 ∨ (N : Int) ≤ j) → xs j = 0
def Red (p : Int) (xs : Int → Int) : Prop := ∀ j : Int, 0 ≤ xs j ∧ xs j < p
theorem Sup_iup {xs : Int → Int} {N : Nat} {i v : Int} (h : Sup xs N) (hi : 0 ≤ i ∧ i < N) : Sup (iup xs i v) N := fun j hj => by
  rw [iup_ne (by omega)]; exact h j hj
theorem Red_iup {p : Int} {xs : Int → Int} {i v : Int} (h : Red p xs) (hv : 0 ≤ v ∧ v < p) : Red p (iup xs i v) := fun j => by
  by_cases hj : j = i
  · rw [hj, iup_at]; exact hv
  · rw [iup_ne hj]; exact h j
theorem Sup_len {xs : Int → Int} {N : Nat} (h : Sup xs N) {j : Int} (hj : plen xs N ≤ j) : xs j = 0 := by
  by_cases h1 : j < N
  · exact plen_zero hj h1
  · exact h j (by omega)
/-- the row at a gets these numbers -/
def rput (S : SS) (a : Nat) (xs : Int → Int) (N : Nat) : SS := setF (putA S (a + 1) xs) a 1 (plen xs N)
/-- a row's numbers -/
def rv (S : SS) (a : Nat) : Int → Int := S.2.1 (a + 1)
def IsRow (sh : SH) (S : SS) (a N : Nat) : Prop := sh a = some (.inl 4) ∧ sh (a + 1) = some (.inr (1, N)) ∧ S.2.2 a 0 = some (a + 1)
/-- a row of room N whose LENGTH is kept, of NUMBERS below p -/
def Row (p : Int) (sh : SH) (S : SS) (a N : Nat) : Prop := IsRow sh S a N ∧ (N : Int) ≤ 64 ∧ S.1 a 1 = plen (rv S a) N ∧ Sup (rv S a) N ∧ Red p (rv S a)
theorem rput_rv {S : SS} {a N : Nat} {xs : Int → Int} : rv (rput S a xs N) a = xs := putA_at
theorem rput_ne {S : SS} {a b N : Nat} {xs : Int → Int} (h : b ≠ a) : rv (rput S a xs N) b = rv S b := by
  show (if b + 1 = a + 1 then xs else S.2.1 (b + 1)) = _
  rw [if_neg (by omega)]; rfl
theorem rput_A {S : SS} {a b N : Nat} {xs : Int → Int} (h : b ≠ a + 1) : (rput S a xs N).2.1 b = S.2.1 b := by
  show (if b = a + 1 then xs else S.2.1 b) = _
  rw [if_neg h]
theorem rput_F {S : SS} {a b k N : Nat} {xs : Int → Int} (h : b ≠ a ∨ k ≠ 1) : (rput S a xs N).1 b k = S.1 b k := by
  show (if b = a ∧ k = 1 then _ else S.1 b k) = _
  rw [if_neg (fun z => h.elim (fun q => q z.1) (fun q => q z.2))]
theorem rput_L {S : SS} {a N : Nat} {xs : Int → Int} : (rput S a xs N).1 a 1 = plen xs N := by
  show (if a = a ∧ 1 = 1 then _ else _) = _
  rw [if_pos ⟨rfl, rfl⟩]
theorem rput_P {S : SS} {a N : Nat} {xs : Int → Int} : (rput S a xs N).2.2 = S.2.2 := rfl
theorem Row_self {p : Int} {sh : SH} {S : SS} {a N : Nat} (h : Row p sh S a N) : rput S a (rv S a) N = S := by
  refine ss_ext (fun b k => ?_) (fun b i => ?_) (fun _ _ => rfl)
  · by_cases hb : b = a ∧ k = 1
    · obtain ⟨rfl, rfl⟩ := hb
      rw [rput_L, h.2.2.1]
    · exact rput_F (by omega)
  · by_cases hb : b = a + 1
    · subst hb
      show rv (rput S a (rv S a) N) a i = _
      rw [rput_rv]; rfl
    · rw [rput_A hb]
theorem rput_rput {S : SS} {a N : Nat} {xs ys : Int → Int} : rput (rput S a xs N) a ys N = rput S a ys N := by
  refine ss_ext (fun b k => ?_) (fun b i => ?_) (fun _ _ => rfl)
  · by_cases hb : b = a ∧ k = 1
    · obtain ⟨rfl, rfl⟩ := hb
      rw [rput_L, rput_L]
    · rw [rput_F (by omega), rput_F (by omega), rput_F (by omega)]
  · by_cases hb : b = a + 1
    · subst hb
      show rv (rput _ a ys N) a i = rv (rput S a ys N) a i
      rw [rput_rv, rput_rv]
    · rw [rput_A hb, rput_A hb, rput_A hb]
theorem rput_comm {S : SS} {a b N M : Nat} {xs ys : Int → Int} (h : a ≠ b) (h1 : a ≠ b + 1) (h2 : b ≠ a + 1) : rput (rput S a xs N) b ys M = rput (rput S b ys M) a xs N := by
  refine ss_ext (fun c k => ?_) (fun c i => ?_) (fun _ _ => rfl)
  · by_cases hc : c = a ∧ k = 1
    · obtain ⟨rfl, rfl⟩ := hc
      rw [rput_F (Or.inl h), rput_L, rput_L]
    · by_cases hd : c = b ∧ k = 1
      · obtain ⟨rfl, rfl⟩ := hd
        rw [rput_L, rput_F (by omega), rput_L]
      · rw [rput_F (by omega), rput_F (by omega), rput_F (by omega), rput_F (by omega)]
  · by_cases hc : c = a + 1
    · subst hc
      rw [rput_A (by omega)]
      show rv (rput S a xs N) a i = rv (rput _ a xs N) a i
      rw [rput_rv, rput_rv]
    · by_cases hd : c = b + 1
      · subst hd
        rw [rput_A (b := b + 1) (a := a) hc]
        show rv (rput _ b ys M) b i = rv (rput S b ys M) b i
        rw [rput_rv, rput_rv]
      · rw [rput_A hd, rput_A hc, rput_A hc, rput_A hd]
theorem IsRow_put {sh : SH} {S : SS} {a b N M : Nat} {xs : Int → Int} (h : IsRow sh S b M) : IsRow sh (rput S a xs N) b M := h
theorem Row_put {p : Int} {sh : SH} {S : SS} {a N : Nat} {xs : Int → Int} (h : Row p sh S a N) (h1 : Sup xs N) (h2 : Red p xs) : Row p sh (rput S a xs N) a N :=
  ⟨h.1, h.2.1, by rw [rput_L, rput_rv], by rw [rput_rv]; exact h1, by rw [rput_rv]; exact h2⟩
theorem Row_ne {p : Int} {sh : SH} {S : SS} {a b N M : Nat} {xs : Int → Int} (h : Row p sh S b M) (hb : b ≠ a) : Row p sh (rput S a xs N) b M :=
  ⟨h.1, h.2.1, by rw [rput_F (Or.inl hb), rput_ne hb]; exact h.2.2.1, by rw [rput_ne hb]; exact h.2.2.2.1, by rw [rput_ne hb]; exact h.2.2.2.2⟩
/-- two rows at two places are apart -/
theorem IsRow_apart {sh : SH} {S : SS} {a b N M : Nat} (h : IsRow sh S a N) (h' : IsRow sh S b M) : a ≠ b + 1 ∧ b ≠ a + 1 := by
  refine ⟨fun e => ?_, fun e => ?_⟩
  · have := h.1; rw [e, h'.2.1] at this; cases this
  · have := h'.1; rw [e, h.2.1] at this; cases this
def clip (N : Nat) (xs : Int → Int) : Int → Int := fun j => if 0 ≤ j ∧ j < N then xs j else 0
theorem clip_sup {N : Nat} {xs : Int → Int} : Sup (clip N xs) N := fun j hj => if_neg (by omega)
theorem clip_red {p : Int} {N : Nat} {xs : Int → Int} (hp : 0 < p) (h : Red p xs) : Red p (clip N xs) := fun j => by
  unfold clip
  by_cases hj : 0 ≤ j ∧ j < N
  · rw [if_pos hj]; exact h j
  · rw [if_neg hj]; omega
theorem clip_id {N : Nat} {xs : Int → Int} (h : Sup xs N) : clip N xs = xs := funext fun j => by
  unfold clip
  by_cases hj : 0 ≤ j ∧ j < N
  · rw [if_pos hj]
  · rw [if_neg hj, h j (by omega)]
theorem Red_pz {p : Int} (hp : 0 < p) : Red p pz := fun _ => ⟨Int.le_refl _, hp⟩
theorem Sup_pz {N : Nat} : Sup pz N := fun _ _ => rfl
theorem setF_setF {S : SS} {a k : Nat} {u v : Int} : setF (setF S a k u) a k v = setF S a k v := by
  refine ss_ext (fun b j => ?_) (fun _ _ => rfl) (fun _ _ => rfl)
  show (if b = a ∧ j = k then v else if b = a ∧ j = k then u else S.1 b j) = if b = a ∧ j = k then v else S.1 b j
  by_cases h : b = a ∧ j = k
  · rw [if_pos h, if_pos h]
  · rw [if_neg h, if_neg h, if_neg h]
theorem setF_same {S : SS} {a k : Nat} : setF S a k (S.1 a k) = S := by
  refine ss_ext (fun b j => ?_) (fun _ _ => rfl) (fun _ _ => rfl)
  show (if b = a ∧ j = k then S.1 a k else S.1 b j) = _
  by_cases h : b = a ∧ j = k
  · rw [if_pos h, h.1, h.2]
  · rw [if_neg h]
theorem setF_at {S : SS} {a k : Nat} {v : Int} : (setF S a k v).1 a k = v := if_pos ⟨rfl, rfl⟩
theorem setF_ne {S : SS} {a k b j : Nat} {v : Int} (h : b ≠ a ∨ j ≠ k) : (setF S a k v).1 b j = S.1 b j := if_neg (fun z => h.elim (fun q => q z.1) (fun q => q z.2))
theorem putA_putA {S : SS} {a : Nat} {xs ys : Int → Int} : putA (putA S a xs) a ys = putA S a ys := by
  refine ss_ext (fun _ _ => rfl) (fun b i => ?_) (fun _ _ => rfl)
  show (if b = a then ys else if b = a then xs else S.2.1 b) i = (if b = a then ys else S.2.1 b) i
  by_cases h : b = a
  · rw [if_pos h, if_pos h]
  · rw [if_neg h, if_neg h, if_neg h]
theorem putA_same {S : SS} {a : Nat} : putA S a (S.2.1 a) = S := by
  refine ss_ext (fun _ _ => rfl) (fun b i => ?_) (fun _ _ => rfl)
  show (if b = a then S.2.1 a else S.2.1 b) i = _
  by_cases h : b = a
  · rw [if_pos h, h]
  · rw [if_neg h]
theorem setA_putA {S : SS} {a : Nat} {xs : Int → Int} {i v : Int} : setA (putA S a xs) a i v = putA S a (iup xs i v) := by
  unfold setA
  rw [putA_at, putA_putA]
theorem putA_ne {S : SS} {a b : Nat} {xs : Int → Int} (h : b ≠ a) : (putA S a xs).2.1 b = S.2.1 b := if_neg h
/-- ys below i, xs from there on -/
def mix (ys xs : Int → Int) (i : Int) : Int → Int := fun j => if 0 ≤ j ∧ j < i then ys j else xs j
theorem mix_0 {ys xs : Int → Int} : mix ys xs 0 = xs := funext fun j => if_neg (by omega)
theorem mix_S {ys xs : Int → Int} {i : Int} (hi : 0 ≤ i) : iup (mix ys xs i) i (ys i) = mix ys xs (i + 1) := by
  funext j
  unfold iup mix
  by_cases hj : j = i
  · rw [if_pos hj, if_pos (by omega), hj]
  · rw [if_neg hj]
    by_cases h : 0 ≤ j ∧ j < i
    · rw [if_pos h, if_pos (by omega)]
    · rw [if_neg h, if_neg (by omega)]
theorem mix_N {ys xs : Int → Int} {N : Nat} (h : Sup xs N) : mix ys xs N = clip N ys := by
  funext j
  unfold mix clip
  by_cases hj : 0 ≤ j ∧ j < N
  · rw [if_pos hj, if_pos hj]
  · rw [if_neg hj, if_neg hj, h j (by omega)]
theorem mix_sup {ys xs : Int → Int} {N : Nat} {i : Int} (h : Sup xs N) (hi : i ≤ N) : Sup (mix ys xs i) N := fun j hj => by
  unfold mix
  rw [if_neg (by omega)]; exact h j hj
theorem mix_red {p : Int} {ys xs : Int → Int} {i : Int} (h1 : Red p ys) (h2 : Red p xs) : Red p (mix ys xs i) := fun j => by
  unfold mix
  by_cases hj : 0 ≤ j ∧ j < i
  · rw [if_pos hj]; exact h1 j
  · rw [if_neg hj]; exact h2 j
