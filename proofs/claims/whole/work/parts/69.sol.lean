/-! Gauss' way: rows of 17 numbers, in one list -/
def swi (A : Int → Int) (a b i : Int) : Int → Int := fun k => if 17 * a ≤ k ∧ k < 17 * a + i then A (k - 17 * a + 17 * b) else if 17 * b ≤ k ∧ k < 17 * b + i then A (k - 17 * b + 17 * a) else A k
theorem swi_red {p a b i : Int} {A : Int → Int} (h : Red p A) : Red p (swi A a b i) := fun k => by
  unfold swi
  split
  · exact h _
  · split
    · exact h _
    · exact h _
theorem swi_0 {a b : Int} {A : Int → Int} : swi A a b 0 = A := by
  funext k
  unfold swi
  rw [if_neg (by omega), if_neg (by omega)]
theorem swi_a {a b i : Int} {A : Int → Int} (hi : 0 ≤ i ∧ i < 17) : swi A a b i (17 * a + i) = A (17 * a + i) := by
  unfold swi
  rw [if_neg (by omega), if_neg (by omega)]
theorem swi_b {a b i : Int} {A : Int → Int} (hi : 0 ≤ i ∧ i < 17) : swi A a b i (17 * b + i) = A (17 * b + i) := by
  unfold swi
  rw [if_neg (by omega), if_neg (by omega)]
theorem swi_S {a b i : Int} {A : Int → Int} (hi : 0 ≤ i ∧ i < 17) : iup (iup (swi A a b i) (17 * a + i) (A (17 * b + i))) (17 * b + i) (A (17 * a + i)) = swi A a b (i + 1) := by
  funext k
  by_cases h1 : k = 17 * b + i
  · rw [h1, iup_at]
    unfold swi
    by_cases hab : a = b
    · rw [if_pos (by omega)]
      exact congrArg A (by omega)
    · rw [if_neg (by omega), if_pos (by omega)]
      exact congrArg A (by omega)
  · rw [iup_ne h1]
    by_cases h2 : k = 17 * a + i
    · rw [h2, iup_at]
      unfold swi
      rw [if_pos (by omega)]
      exact congrArg A (by omega)
    · rw [iup_ne h2]
      unfold swi
      by_cases h3 : 17 * a ≤ k ∧ k < 17 * a + i
      · rw [if_pos h3, if_pos (by omega)]
      · rw [if_neg h3, if_neg (show ¬ (17 * a ≤ k ∧ k < 17 * a + (i + 1)) by omega)]
        by_cases h4 : 17 * b ≤ k ∧ k < 17 * b + i
        · rw [if_pos h4, if_pos (by omega)]
        · rw [if_neg h4, if_neg (by omega)]
def scf (p f : Int) (A : Int → Int) : Int → Int := fun k => A k * f % p
def elf (p g r d : Int) (A : Int → Int) : Int → Int := fun k => (A k - g * A (k - 17 * r + 17 * d)) % p
/-- behind the first R rows' clearing at u by row d -/
def elm (p : Int) (A : Int → Int) (d u R : Int) : Int → Int := fun k => if (0 ≤ k ∧ k < 17 * R) ∧ ¬ (17 * d ≤ k ∧ k < 17 * d + 17) then (A k - A (17 * (k / 17) + u) * A (k - 17 * (k / 17) + 17 * d)) % p else A k
theorem elm_red {p d u R : Int} {A : Int → Int} (hp : 0 < p) (h : Red p A) : Red p (elm p A d u R) := fun k => by
  unfold elm
  split
  · exact em_bd hp
  · exact h k
theorem elm_0 {p d u : Int} {A : Int → Int} : elm p A d u 0 = A := by
  funext k
  unfold elm
  rw [if_neg (by omega)]
theorem elm_row {p d u R j : Int} {A : Int → Int} (hR : 0 ≤ R) (hj : 0 ≤ j ∧ j < 17) : elm p A d u R (17 * R + j) = A (17 * R + j) := by
  unfold elm
  rw [if_neg (by omega)]
theorem elm_d {p d u R j : Int} {A : Int → Int} (hj : 0 ≤ j ∧ j < 17) : elm p A d u R (17 * d + j) = A (17 * d + j) := by
  unfold elm
  rw [if_neg (by omega)]
theorem elm_S {p d u R : Int} {A : Int → Int} (hR : 0 ≤ R) (hRd : R ≠ d) : seg (17 * R) (17 * R + 17) (elf p (A (17 * R + u)) R d (elm p A d u R)) (elm p A d u R) = elm p A d u (R + 1) := by
  funext k
  by_cases h : 17 * R ≤ k ∧ k < 17 * R + 17
  · rw [seg_in h]
    have e1 : elm p A d u R k = A k := by unfold elm; rw [if_neg (by omega)]
    have e2 : elm p A d u R (k - 17 * R + 17 * d) = A (k - 17 * R + 17 * d) := by unfold elm; rw [if_neg (by omega)]
    unfold elf
    rw [e1, e2]
    unfold elm
    rw [if_pos (by omega), show k / 17 = R by omega]
  · rw [seg_out h]
    unfold elm
    by_cases h2 : (0 ≤ k ∧ k < 17 * R) ∧ ¬ (17 * d ≤ k ∧ k < 17 * d + 17)
    · rw [if_pos h2, if_pos (by omega)]
    · rw [if_neg h2, if_neg (by omega)]
theorem elm_skip {p d u R : Int} {A : Int → Int} (hA : Red p A) (hR : 0 ≤ R) (h : R = d ∨ A (17 * R + u) = 0) : elm p A d u R = elm p A d u (R + 1) := by
  funext k
  unfold elm
  by_cases h2 : (0 ≤ k ∧ k < 17 * R) ∧ ¬ (17 * d ≤ k ∧ k < 17 * d + 17)
  · rw [if_pos h2, if_pos (by omega)]
  · rw [if_neg h2]
    by_cases h3 : (0 ≤ k ∧ k < 17 * (R + 1)) ∧ ¬ (17 * d ≤ k ∧ k < 17 * d + 17)
    · rw [if_pos h3, show k / 17 = R by omega]
      rcases h with h | h
      · omega
      · rw [h, Int.zero_mul, Int.sub_zero, em_id (hA k)]
    · rw [if_neg h3]
/-- a step with row q as the leading one, at u, put to d -/
def piv (p : Int) (A : Int → Int) (q d u f many : Int) : Int → Int := elm p (seg (17 * d) (17 * d + 17) (scf p f (swi A q d 17)) (swi A q d 17)) d u many
theorem piv_red {p q d u f many : Int} {A : Int → Int} (hp : 0 < p) (h : Red p A) : Red p (piv p A q d u f many) := elm_red hp (seg_red (fun _ => em_bd hp) (swi_red h))
theorem piv_d {p q d u f many j : Int} {A : Int → Int} (hj : 0 ≤ j ∧ j < 17) : piv p A q d u f many (17 * d + j) = A (17 * q + j) * f % p := by
  unfold piv
  rw [elm_d hj, seg_in (by omega)]
  unfold scf swi
  by_cases h : q = d
  · rw [if_pos (by omega), h, show 17 * d + j - 17 * d + 17 * d = 17 * d + j by omega]
  · rw [if_neg (by omega), if_pos (by omega), show 17 * d + j - 17 * d + 17 * q = 17 * q + j by omega]
def sgm (q d r : Int) : Int := if r = q then d else r
theorem swi_r {q d r j : Int} {A : Int → Int} (hj : 0 ≤ j ∧ j < 17) (hr : r ≠ d) : swi A q d 17 (17 * r + j) = A (17 * sgm q d r + j) := by
  unfold swi sgm
  by_cases h : r = q
  · rw [if_pos h, if_pos (by omega)]
    exact congrArg A (by omega)
  · rw [if_neg h, if_neg (by omega), if_neg (by omega)]
theorem piv_r {p q d u f many r j : Int} {A : Int → Int} (hj : 0 ≤ j ∧ j < 17) (hu : 0 ≤ u ∧ u < 17) (hr : 0 ≤ r ∧ r < many) (hrd : r ≠ d) : piv p A q d u f many (17 * r + j) = (A (17 * sgm q d r + j) - A (17 * sgm q d r + u) * (A (17 * q + j) * f % p)) % p := by
  unfold piv elm
  rw [if_pos (by omega), show (17 * r + j) / 17 = r by omega, seg_out (by omega), seg_out (by omega), swi_r hj hrd, swi_r hu hrd, show 17 * r + j - 17 * r + 17 * d = 17 * d + j by omega, seg_in (by omega)]
  unfold scf swi
  by_cases h : q = d
  · rw [if_pos (by omega), h, show 17 * d + j - 17 * d + 17 * d = 17 * d + j by omega]
  · rw [if_neg (by omega), if_pos (by omega), show 17 * d + j - 17 * d + 17 * q = 17 * q + j by omega]
/-- a row's sum less what it should be -/
def rwv (A x : Int → Int) (U r : Int) : Int := csum (fun j => A (17 * r + j) * x j) U.toNat - A (17 * r + 16)
def Sol (p many U : Int) (A x : Int → Int) : Prop := ∀ r : Int, 0 ≤ r → r < many → Cg p (rwv A x U r) 0
theorem Cg_smul {p a b c : Int} (h : Cg p a b) : Cg p (c * a) (c * b) := Cg_mul Cg_rf h
theorem rwv_d {p q d u f many U : Int} {A x : Int → Int} (hU : 0 ≤ U ∧ U ≤ 16) : Cg p (rwv (piv p A q d u f many) x U d) (f * rwv A x U q) := by
  unfold rwv
  rw [Int.mul_sub, ← csum_mul, piv_d (by omega)]
  refine Cg_sub (Cg_csum (fun j h1 h2 => ?_)) (Cg_tr Cg_em (Cg_of (Int.mul_comm _ _)))
  show Cg p (piv p A q d u f many (17 * d + j) * x j) (f * (A (17 * q + j) * x j))
  rw [piv_d (by omega)]
  exact Cg_tr (Cg_mul Cg_em Cg_rf) (Cg_of (by rw [Int.mul_comm (A (17 * q + j)) f, Int.mul_assoc]))
theorem rwv_r {p q d u f many U r : Int} {A x : Int → Int} (hU : 0 ≤ U ∧ U ≤ 16) (hu : 0 ≤ u ∧ u < 17) (hr : 0 ≤ r ∧ r < many) (hrd : r ≠ d) : Cg p (rwv (piv p A q d u f many) x U r) (rwv A x U (sgm q d r) - A (17 * sgm q d r + u) * rwv (piv p A q d u f many) x U d) := by
  unfold rwv
  have e1 : csum (fun j => A (17 * sgm q d r + j) * x j) U.toNat - A (17 * sgm q d r + 16) - A (17 * sgm q d r + u) * (csum (fun j => piv p A q d u f many (17 * d + j) * x j) U.toNat - piv p A q d u f many (17 * d + 16)) = csum (fun j => A (17 * sgm q d r + j) * x j + (-A (17 * sgm q d r + u)) * (piv p A q d u f many (17 * d + j) * x j)) U.toNat - (A (17 * sgm q d r + 16) - A (17 * sgm q d r + u) * piv p A q d u f many (17 * d + 16)) := by
    rw [csum_add, csum_mul, Int.mul_sub, Int.neg_mul]
    omega
  rw [e1]
  refine Cg_sub (Cg_csum (fun j h1 h2 => ?_)) ?_
  · show Cg p (piv p A q d u f many (17 * r + j) * x j) (A (17 * sgm q d r + j) * x j + (-A (17 * sgm q d r + u)) * (piv p A q d u f many (17 * d + j) * x j))
    rw [piv_r (by omega) hu hr hrd, piv_d (by omega)]
    refine Cg_tr (Cg_mul Cg_em Cg_rf) (Cg_of ?_)
    rw [Int.sub_mul, Int.neg_mul, Int.mul_assoc (A (17 * sgm q d r + u))]
    omega
  · rw [piv_r (by omega) hu hr hrd, piv_d (by omega)]
    exact Cg_em
theorem Sol_piv {p q d u f many U : Int} {A x : Int → Int} (hU : 0 ≤ U ∧ U ≤ 16) (hu : 0 ≤ u ∧ u < 17) (hd : 0 ≤ d ∧ d < many) (hq : 0 ≤ q ∧ q < many) (hf : Cg p (A (17 * q + u) * f) 1) : Sol p many U (piv p A q d u f many) x ↔ Sol p many U A x := by
  constructor
  · intro h r h0 h1
    have hbd := h d hd.1 hd.2
    have hVq : Cg p (rwv A x U q) 0 := by
      have e1 := Cg_smul (c := A (17 * q + u)) (Cg_tr (Cg_sy (rwv_d (p := p) (q := q) (d := d) (u := u) (f := f) (many := many) (A := A) (x := x) hU)) hbd)
      rw [Int.mul_zero, ← Int.mul_assoc] at e1
      have e2 := Cg_mul hf (Cg_rf (p := p) (a := rwv A x U q))
      rw [Int.one_mul] at e2
      exact Cg_tr (Cg_sy e2) e1
    by_cases hrq : r = q
    · rw [hrq]; exact hVq
    · have key : ∀ r' : Int, 0 ≤ r' ∧ r' < many → r' ≠ d → sgm q d r' = r → Cg p (rwv A x U r) 0 := by
        intro r' hr' hrd hs
        have e1 := rwv_r (p := p) (q := q) (d := d) (u := u) (f := f) (many := many) (A := A) (x := x) hU hu hr' hrd
        rw [hs] at e1
        have e2 := h r' hr'.1 hr'.2
        have e3 := Cg_smul (c := A (17 * r + u)) hbd
        rw [Int.mul_zero] at e3
        have e4 := Cg_add (Cg_tr (Cg_sy e1) e2) e3
        exact Cg_tr (Cg_of (by omega)) (Cg_tr e4 (Cg_of (by omega)))
      by_cases hrd : r = d
      · exact key q hq (by omega) (by unfold sgm; rw [if_pos rfl, hrd])
      · exact key r ⟨h0, h1⟩ hrd (by unfold sgm; rw [if_neg hrq])
  · intro h r h0 h1
    have hbd : Cg p (rwv (piv p A q d u f many) x U d) 0 := by
      have e1 := Cg_smul (c := f) (h q hq.1 hq.2)
      rw [Int.mul_zero] at e1
      exact Cg_tr (rwv_d hU) e1
    by_cases hrd : r = d
    · rw [hrd]; exact hbd
    · have e1 := rwv_r (p := p) (q := q) (d := d) (u := u) (f := f) (many := many) (A := A) (x := x) hU hu ⟨h0, h1⟩ hrd
      have hs : 0 ≤ sgm q d r ∧ sgm q d r < many := by
        unfold sgm
        by_cases hrq : r = q
        · rw [if_pos hrq]; exact hd
        · rw [if_neg hrq]; exact ⟨h0, h1⟩
      have e2 := h _ hs.1 hs.2
      have e3 := Cg_smul (c := A (17 * sgm q d r + u)) hbd
      rw [Int.mul_zero] at e3
      exact Cg_tr e1 (Cg_tr (Cg_sub e2 e3) (Cg_of (by omega)))
/-- what holds of the rows when u columns are through -/
def GsI (p : Int) (A ld : Int → Int) (many d u : Int) : Prop := Red p A ∧ 0 ≤ d ∧ d ≤ many ∧ d ≤ u ∧ (∀ i : Int, 0 ≤ i → i < d → (0 ≤ ld i ∧ ld i < u) ∧ A (17 * i + ld i) = 1 ∧ ∀ r : Int, 0 ≤ r → r < many → r ≠ i → A (17 * r + ld i) = 0) ∧ ∀ r : Int, d ≤ r → r < many → ∀ v : Int, 0 ≤ v → v < u → A (17 * r + v) = 0
theorem GsI_piv {p q d u f many : Int} {A ld : Int → Int} (hP : IsP p) (h : GsI p A ld many d u) (hu : 0 ≤ u ∧ u < 17) (hq : d ≤ q ∧ q < many) (hf : A (17 * q + u) * f % p = 1) : GsI p (piv p A q d u f many) (iup ld d u) many (d + 1) (u + 1) := by
  obtain ⟨h1, h2, h3, h4, h5, h6⟩ := h
  have hpb := hP.bd
  have hsd : ∀ r : Int, d < r → r < many → d ≤ sgm q d r ∧ sgm q d r < many := fun r g1 g2 => by
    unfold sgm
    by_cases hrq : r = q
    · rw [if_pos hrq]; omega
    · rw [if_neg hrq]; omega
  refine ⟨piv_red (by omega) h1, by omega, by omega, by omega, fun i g1 g2 => ?_, fun r g1 g2 v g3 g4 => ?_⟩
  · by_cases hid : i = d
    · rw [hid, iup_at]
      refine ⟨by omega, by rw [piv_d hu]; exact hf, fun r k1 k2 k3 => ?_⟩
      rw [piv_r hu hu ⟨k1, k2⟩ k3, hf, Int.mul_one, Int.sub_self]
      exact Int.zero_emod p
    · obtain ⟨a1, a2, a3⟩ := h5 i g1 (by omega)
      rw [iup_ne hid]
      have z : A (17 * q + ld i) = 0 := h6 q hq.1 hq.2 _ a1.1 a1.2
      refine ⟨by omega, ?_, fun r k1 k2 k3 => ?_⟩
      · rw [piv_r (by omega) hu (by omega) (by omega), z, Int.zero_mul, Int.zero_emod, Int.mul_zero, Int.sub_zero]
        have e : sgm q d i = i := by unfold sgm; rw [if_neg (by omega)]
        rw [e, a2, em_id (by omega)]
      · by_cases hrd : r = d
        · rw [hrd, piv_d (by omega), z, Int.zero_mul]; exact Int.zero_emod p
        · rw [piv_r (by omega) hu ⟨k1, k2⟩ hrd, z, Int.zero_mul, Int.zero_emod, Int.mul_zero, Int.sub_zero]
          have e : A (17 * sgm q d r + ld i) = 0 := by
            unfold sgm
            by_cases hrq : r = q
            · rw [if_pos hrq]; exact a3 d (by omega) (by omega) (by omega)
            · rw [if_neg hrq]; exact a3 r k1 k2 k3
          rw [e]; exact Int.zero_emod p
  · obtain ⟨s1, s2⟩ := hsd r (by omega) g2
    by_cases hvu : v = u
    · rw [hvu, piv_r hu hu (by omega) (by omega), hf, Int.mul_one, Int.sub_self]
      exact Int.zero_emod p
    · rw [piv_r (by omega) hu (by omega) (by omega), h6 _ s1 s2 v g3 (by omega), h6 q hq.1 hq.2 v g3 (by omega), Int.zero_mul, Int.zero_emod, Int.mul_zero, Int.sub_zero]
      exact Int.zero_emod p
theorem GsI_skip {p d u many : Int} {A ld : Int → Int} (h : GsI p A ld many d u) (hz : ∀ r : Int, d ≤ r → r < many → A (17 * r + u) = 0) : GsI p A ld many d (u + 1) := by
  obtain ⟨h1, h2, h3, h4, h5, h6⟩ := h
  refine ⟨h1, h2, h3, by omega, fun i g1 g2 => ?_, fun r g1 g2 v g3 g4 => ?_⟩
  · obtain ⟨a1, a2, a3⟩ := h5 i g1 g2
    exact ⟨by omega, a2, a3⟩
  · by_cases hvu : v = u
    · rw [hvu]; exact hz r g1 g2
    · exact h6 r g1 g2 v g3 (by omega)
/-- the numbers sought, behind t writes -/
def gsx (A ld : Int → Int) : Nat → Int → Int
  | 0 => pz
  | t + 1 => iup (gsx A ld t) (ld (t : Int)) (A (17 * (t : Int) + 16))
theorem gsx_out {A ld : Int → Int} {j : Int} : ∀ {t : Nat}, (∀ i : Int, 0 ≤ i → i < t → ld i ≠ j) → gsx A ld t j = 0
  | 0, _ => rfl
  | t + 1, h => by
    show iup (gsx A ld t) (ld (t : Int)) (A (17 * (t : Int) + 16)) j = 0
    rw [iup_ne (Ne.symm (h t (by omega) (by omega)))]
    exact gsx_out (fun i h1 h2 => h i h1 (by omega))
theorem gsx_at {A ld : Int → Int} {i : Int} : ∀ {t : Nat}, (0 ≤ i ∧ i < t) → (∀ a : Int, 0 ≤ a → a < t → a ≠ i → ld a ≠ ld i) → gsx A ld t (ld i) = A (17 * i + 16)
  | 0, h, _ => by omega
  | t + 1, h, hd => by
    show iup (gsx A ld t) (ld (t : Int)) (A (17 * (t : Int) + 16)) (ld i) = _
    by_cases e : i = t
    · rw [e, iup_at]
    · rw [iup_ne (Ne.symm (hd t (by omega) (by omega) (by omega)))]
      exact gsx_at (by omega) (fun a h1 h2 => hd a h1 (by omega))
theorem gsx_red {p : Int} {A ld : Int → Int} (hp : 0 < p) (h : Red p A) : ∀ t : Nat, Red p (gsx A ld t)
  | 0 => Red_pz hp
  | t + 1 => Red_iup (gsx_red hp h t) (h _)
theorem gsx_z {A ld : Int → Int} {U : Int} : ∀ {t : Nat}, (∀ i : Int, 0 ≤ i → i < t → 0 ≤ ld i ∧ ld i < U) → ∀ j : Int, (j < 0 ∨ U ≤ j) → gsx A ld t j = 0 := fun h j hj => gsx_out (fun i h1 h2 => by have := h i h1 h2; omega)
theorem Gs_end {p d U many : Int} {A ld : Int → Int} (h : GsI p A ld many d U) (hU : 0 ≤ U ∧ U ≤ 16) (hz : ∀ r : Int, d ≤ r → r < many → A (17 * r + 16) = 0) : Sol p many U A (gsx A ld d.toNat) := by
  obtain ⟨h1, h2, h3, h4, h5, h6⟩ := h
  have inj : ∀ i : Int, 0 ≤ i → i < d → ∀ a : Int, 0 ≤ a → a < (d.toNat : Int) → a ≠ i → ld a ≠ ld i := fun i g1 g2 a k1 k2 k3 e => by
    have e1 := (h5 i g1 g2).2.1
    have e2 := (h5 a k1 (by omega)).2.2 i g1 (by omega) (Ne.symm k3)
    rw [e] at e2
    omega
  intro r h0 hm
  refine Cg_of ?_
  unfold rwv
  by_cases hrd : r < d
  · obtain ⟨a1, a2, a3⟩ := h5 r h0 hrd
    have e : csum (fun j => A (17 * r + j) * gsx A ld d.toNat j) U.toNat = csum (fun j => if j = ld r then A (17 * r + 16) else 0) U.toNat := by
      refine csum_congr (fun j k1 k2 => ?_)
      show A (17 * r + j) * gsx A ld d.toNat j = if j = ld r then A (17 * r + 16) else 0
      by_cases hj : j = ld r
      · rw [if_pos hj, hj, a2, gsx_at (by omega) (inj r h0 hrd), Int.one_mul]
      · rw [if_neg hj]
        by_cases hex : ∃ i : Int, 0 ≤ i ∧ i < d ∧ ld i = j
        · obtain ⟨i, i1, i2, i3⟩ := hex
          have := (h5 i i1 i2).2.2 r h0 hm (fun z => hj (by rw [← i3, z]))
          rw [i3] at this
          rw [this, Int.zero_mul]
        · rw [gsx_out (fun i i1 i2 z => hex ⟨i, i1, by omega, z⟩), Int.mul_zero]
    rw [e, csum_one, if_pos (by omega)]
    omega
  · rw [hz r (by omega) hm, csum_zero (fun j k1 k2 => by show A (17 * r + j) * _ = 0; rw [h6 r (by omega) hm j k1 (by omega), Int.zero_mul])]
    omega
theorem Gs_no {p d U many r : Int} {A ld : Int → Int} (hP : IsP p) (h : GsI p A ld many d U) (hU : 0 ≤ U ∧ U ≤ 16) (hr : d ≤ r ∧ r < many) (hz : A (17 * r + 16) ≠ 0) : ∀ x : Int → Int, ¬ Sol p many U A x := by
  intro x hx
  obtain ⟨h1, h2, h3, h4, h5, h6⟩ := h
  have e := hx r (by omega) hr.2
  unfold rwv at e
  rw [csum_zero (fun j k1 k2 => by show A (17 * r + j) * _ = 0; rw [h6 r (by omega) hr.2 j k1 (by omega), Int.zero_mul])] at e
  have e2 := Cg_neg e
  exact hz (Cg_z (Cg_tr (Cg_of (by omega)) e2) (h1 _))
