/-! what divides -/
def Fs (q : Int → Int) : Prop := Zn q ∧ ∃ L : Int, ∀ j : Int, L ≤ j → q j = 0
def Dv (p : Int) (D X : Int → Int) : Prop := ∃ q : Int → Int, Fs q ∧ ∀ j : Int, Cg p (conv q D j) (X j)
theorem Fs_sup {q : Int → Int} {N : Nat} (h : Sup q N) : Fs q := ⟨fun j hj => h j (Or.inl hj), N, fun j hj => h j (Or.inr hj)⟩
theorem Fs_conv {a b : Int → Int} (ha : Fs a) (hb : Fs b) : Fs (conv a b) := by
  obtain ⟨-, L, hL⟩ := ha
  obtain ⟨-, M, hM⟩ := hb
  exact ⟨conv_zn, L + M - 1, fun j hj => conv_out hL hM hj⟩
theorem Fs_add {a b : Int → Int} (ha : Fs a) (hb : Fs b) : Fs (fun j => a j + b j) := by
  obtain ⟨za, L, hL⟩ := ha
  obtain ⟨zb, M, hM⟩ := hb
  refine ⟨fun j hj => by show a j + b j = 0; rw [za j hj, zb j hj]; rfl, if L ≤ M then M else L, fun j hj => ?_⟩
  show a j + b j = 0
  by_cases c : L ≤ M
  · rw [if_pos c] at hj
    rw [hL j (by omega), hM j (by omega)]; rfl
  · rw [if_neg c] at hj
    rw [hL j (by omega), hM j (by omega)]; rfl
theorem Fs_mul {a : Int → Int} {f : Int} (ha : Fs a) : Fs (fun j => f * a j) := by
  obtain ⟨za, L, hL⟩ := ha
  exact ⟨fun j hj => by show f * a j = 0; rw [za j hj, Int.mul_zero], L, fun j hj => by show f * a j = 0; rw [hL j hj, Int.mul_zero]⟩
theorem conv_cg {p : Int} {a a' b b' : Int → Int} {i : Int} (h : ∀ j : Int, Cg p (a j) (a' j)) (h' : ∀ j : Int, Cg p (b j) (b' j)) : Cg p (conv a b i) (conv a' b' i) := by
  unfold conv
  exact Cg_csum (fun j _ _ => Cg_mul (h j) (h' (i - j)))
theorem conv_one {D : Int → Int} {j : Int} (hD : Zn D) : conv one D j = D j := by
  have e := conv_iup (q := pz) (b := D) (i := 0) (f := 1) (j := j) rfl (by decide) hD
  rw [conv_pz, Int.zero_add, Int.one_mul, show j - 0 = j by omega] at e
  exact e
theorem Dv_rf {p : Int} {D : Int → Int} (hD : Zn D) : Dv p D D := ⟨one, Fs_sup (one_sup (N := 1) (by decide)), fun j => Cg_of (conv_one hD)⟩
theorem Dv_pz {p : Int} {D X : Int → Int} (h : ∀ j : Int, X j = 0) : Dv p D X := ⟨pz, ⟨fun _ _ => rfl, 0, fun _ _ => rfl⟩, fun j => Cg_of (by rw [conv_pz, h])⟩
theorem Dv_lin {p : Int} {D X Y Z s : Int → Int} (hD : Zn D) (hs : Fs s) (hX : Dv p D X) (hY : Dv p D Y) (h : ∀ j : Int, Cg p (conv s X j + Y j) (Z j)) : Dv p D Z := by
  obtain ⟨q, fq, cq⟩ := hX
  obtain ⟨r, fr, cr⟩ := hY
  refine ⟨fun j => conv s q j + r j, Fs_add (Fs_conv hs fq) fr, fun j => ?_⟩
  have e1 : conv (fun j => conv s q j + r j) D j = conv s (conv q D) j + conv r D j := by
    rw [conv_addl, conv_assoc hs.1 fq.1 hD]
  rw [e1]
  exact Cg_tr (Cg_add (conv_cg (fun _ => Cg_rf) cq) (cr j)) (h j)
/-- a step of Euclid's way keeps the common divisors -/
theorem Dv_step {p : Int} {D o w q r : Int → Int} (hD : Zn D) (hq : Fs q) (h : ∀ j : Int, Cg p (conv q w j + r j) (o j)) : (Dv p D o ∧ Dv p D w) ↔ (Dv p D w ∧ Dv p D r) := by
  constructor
  · rintro ⟨h1, h2⟩
    refine ⟨h2, Dv_lin (s := fun j => (-1) * q j) hD (Fs_mul hq) h2 h1 (fun j => ?_)⟩
    rw [conv_mull]
    exact Cg_tr (Cg_add (Cg_rf (a := (-1) * conv q w j)) (Cg_sy (h j))) (Cg_of (by omega))
  · rintro ⟨h1, h2⟩
    exact ⟨Dv_lin hD hq h1 h2 h, h1⟩
theorem est_Dv {p M : Int} {N : Nat} {x : QD} {D : Int → Int} (hP : IsP p) (hD : Zn D) (h : EuI p N M x) (hw : 0 < plen x.2.1 N) : (Dv p D x.1 ∧ Dv p D x.2.1) ↔ (Dv p D (est p N x).1 ∧ Dv p D (est p N x).2.1) := by
  have hS := pdiv_S hP hw h.1.2 (fun j hj => Sup_z h.1.1 hj) h.2.1.2 (fun j hj => Sup_z h.2.1.1 hj) (plen_lead hw)
  exact Dv_step hD ⟨fun j hj => hS.2.2.2.2 j (Or.inl hj), plen x.1 N - plen x.2.1 N + 1, fun j hj => hS.2.2.2.2 j (Or.inr (by omega))⟩ hS.2.2.1
theorem eu_Dv {p M : Int} {a b D : Int → Int} (hP : IsP p) (hM : M ≤ 64) (ha : SR p 64 a) (hb : SR p 64 b) (la : plen a 64 ≤ M) (lb : plen b 64 ≤ M) (hD : Zn D) : ∀ t : Nat, (∀ s : Nat, s < t → 0 < plen (eu p a b s).2.1 64) → ((Dv p D a ∧ Dv p D b) ↔ (Dv p D (eu p a b t).1 ∧ Dv p D (eu p a b t).2.1))
  | 0, _ => Iff.rfl
  | t + 1, h => by
    have ih := eu_Dv hP hM ha hb la lb hD t (fun s hs => h s (by omega))
    have h1 := (eu_I hP hM ha hb la lb t (fun s hs => h s (by omega))).1
    exact ih.trans (est_Dv (N := 64) hP hD h1 (h t (by omega)))
theorem mu_Dv {p M : Int} {a b D : Int → Int} (hP : IsP p) (hM : M ≤ 80) (ha : SR p 80 a) (hb : SR p 80 b) (la : plen a 80 ≤ M) (lb : plen b 80 ≤ M) (hD : Zn D) : ∀ t : Nat, (∀ s : Nat, s < t → 0 < plen (mu p a b s).2.1 80) → ((Dv p D a ∧ Dv p D b) ↔ (Dv p D (mu p a b t).1 ∧ Dv p D (mu p a b t).2.1))
  | 0, _ => Iff.rfl
  | t + 1, h => by
    have ih := mu_Dv hP hM ha hb la lb hD t (fun s hs => h s (by omega))
    have h1 := (mu_I hP hM ha hb la lb t (fun s hs => h s (by omega))).1
    exact ih.trans (est_Dv (N := 80) hP hD h1 (h t (by omega)))
