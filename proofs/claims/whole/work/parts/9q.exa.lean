/-! the lengths of Euclid's factors, exactly, where the first is longer than the second -/
def EuX (N : Nat) (l : Int) (x : QD) : Prop := plen x.2.1 N < plen x.1 N ∧ plen x.2.2.2 N + plen x.1 N = l + 1 ∧ plen x.2.2.1 N < plen x.2.2.2 N
theorem est_X {p M l : Int} {N : Nat} {x : QD} (hP : IsP p) (hM : M ≤ N) (h : EuI p N M x) (hx : EuX N l x) (hw : 0 < plen x.2.1 N) : EuX N l (est p N x) := by
  obtain ⟨o, w, f, v⟩ := x
  obtain ⟨⟨so, ro⟩, ⟨sw, rw_⟩, ⟨sf, rf⟩, ⟨sv, rv_⟩, hA, hB, hC⟩ := h
  obtain ⟨x1, x2, x3⟩ := hx
  have hpb := hP.bd
  have so : Sup o N := so
  have sw : Sup w N := sw
  have sf : Sup f N := sf
  have sv : Sup v N := sv
  have ro : Red p o := ro
  have rw_ : Red p w := rw_
  have rf : Red p f := rf
  have rv_ : Red p v := rv_
  have hw' : 0 < plen w N := hw
  have x1 : plen w N < plen o N := x1
  have x2 : plen v N + plen o N = l + 1 := x2
  have x3 : plen f N < plen v N := x3
  have hA' : plen v N + plen o N ≤ M + 1 := hA
  have bo := plen_bd o N
  have bf := plen_bd f N
  have bv := plen_bd v N
  have hD : DivS p o w (pdiv p o w (plen o N) (plen w N)).1 (pdiv p o w (plen o N) (plen w N)).2 (plen o N) (plen w N) := pdiv_S hP hw' ro (fun j hj => Sup_z so hj) rw_ (fun j hj => Sup_z sw hj) (plen_lead hw')
  show EuX N l (w, (pdiv p o w (plen o N) (plen w N)).2, v, padd p f (-1) (pmul p (pdiv p o w (plen o N) (plen w N)).1 v) 0)
  generalize (pdiv p o w (plen o N) (plen w N)).1 = q at hD ⊢
  generalize (pdiv p o w (plen o N) (plen w N)).2 = r at hD ⊢
  obtain ⟨d1, d2, d3, d4, d5⟩ := hD
  have lr : plen r N ≤ plen w N - 1 := plen_le (by omega) (fun j hj _ => d4 j (by omega))
  have wl := plen_lead hw'
  have wr := rw_ (plen w N - 1)
  have vl := plen_lead (show 0 < plen v N by omega)
  have vr := rv_ (plen v N - 1)
  have ol := plen_lead (show 0 < plen o N by omega)
  have or_ := ro (plen o N - 1)
  have t1 := conv_top (d := q) (b := w) (k := plen o N - plen w N) (m := plen w N) (fun j hj => d5 j (by omega)) (fun j hj => Sup_z sw (by omega)) (by omega) (by omega)
  rw [show plen o N - plen w N + plen w N - 1 = plen o N - 1 by omega] at t1
  have qn : q (plen o N - plen w N) ≠ 0 := fun z => by
    have e := d3 (plen o N - 1)
    rw [t1, z, Int.zero_mul, d4 (plen o N - 1) (by omega)] at e
    exact ol (Cg_z (Cg_sy e) or_)
  have qr := d1 (plen o N - plen w N)
  have t2 := conv_top (d := q) (b := v) (k := plen o N - plen w N) (m := plen v N) (fun j hj => d5 j (by omega)) (fun j hj => Sup_z sv (by omega)) (by omega) (by omega)
  have pz' : ∀ j : Int, plen o N - plen w N + plen v N ≤ j → pmul p q v j = 0 := fun j hj => pmul_out (la := plen o N - plen w N + 1) (lb := plen v N) (fun i hi => d5 i (by omega)) (fun i hi => Sup_z sv (by omega)) (by omega)
  have pn : pmul p q v (plen o N - plen w N + plen v N - 1) ≠ 0 := fun z => by
    have e : Cg p (q (plen o N - plen w N) * v (plen v N - 1)) 0 := by
      rw [← t2]
      exact Cg_tr (Cg_sy Cg_em) (Cg_of z)
    exact vl (Cg_z (Cg_nz hP (show 0 < q (plen o N - plen w N) ∧ q (plen o N - plen w N) < p by omega) e) vr)
  have pr_ := pmul_red (p := p) (a := q) (b := v) (by omega) (plen o N - plen w N + plen v N - 1)
  have vn : padd p f (-1) (pmul p q v) 0 (plen o N - plen w N + plen v N - 1) ≠ 0 := fun z => by
    have e : padd p f (-1) (pmul p q v) 0 (plen o N - plen w N + plen v N - 1) = (f (plen o N - plen w N + plen v N - 1) + (-1) * pmul p q v (plen o N - plen w N + plen v N - 1 - 0)) % p := rfl
    rw [Sup_z sf (show plen o N - plen w N + plen v N - 1 < 0 ∨ plen f N ≤ plen o N - plen w N + plen v N - 1 by omega), Int.sub_zero] at e
    rw [z] at e
    have e2 : Cg p (0 + (-1) * pmul p q v (plen o N - plen w N + plen v N - 1)) 0 := Cg_tr (Cg_sy Cg_em) (Cg_of e.symm)
    have e3 := Cg_neg e2
    exact pn (Cg_z (Cg_tr (Cg_of (by omega)) e3) pr_)
  have lv : plen (padd p f (-1) (pmul p q v) 0) N = plen o N - plen w N + plen v N := plen_eq (by omega) (by omega) (fun j hj _ => by
    rw [padd_out rf (pz' (j - 0) (by omega))]
    exact Sup_z sf (by omega)) (Or.inr vn)
  exact ⟨show plen r N < plen w N by omega, show plen (padd p f (-1) (pmul p q v) 0) N + plen w N = l + 1 by omega, show plen v N < plen (padd p f (-1) (pmul p q v) 0) N by omega⟩
theorem eu_X {p M : Int} {a b : Int → Int} (hP : IsP p) (hM : M ≤ 64) (ha : SR p 64 a) (hb : SR p 64 b) (la : plen a 64 ≤ M) (lb : plen b 64 < plen a 64) : ∀ t : Nat, (∀ s : Nat, s < t → 0 < plen (eu p a b s).2.1 64) → EuX 64 (plen a 64) (eu p a b t)
  | 0, _ => by
    have h1 : plen one 64 = 1 := plen_eq (by decide) (by decide) (fun j hj _ => (iup_ne (by omega)).trans rfl) (Or.inr (by decide))
    have h2 := plen_pz 64
    exact ⟨lb, show plen one 64 + plen a 64 = plen a 64 + 1 by omega, show plen pz 64 < plen one 64 by omega⟩
  | t + 1, h => by
    have ih := eu_X hP hM ha hb la lb t (fun s hs => h s (by omega))
    have hI := (eu_I hP hM ha hb la (by omega) t (fun s hs => h s (by omega))).1
    exact est_X (N := 64) hP (show M ≤ ((64 : Nat) : Int) by omega) hI ih (h t (by omega))
/-- hV of nearest -/
theorem eu_v {p M bd : Int} {a b : Int → Int} (hP : IsP p) (hM : M ≤ 64) (ha : SR p 64 a) (hb : SR p 64 b) (la : plen a 64 ≤ M) (lb : plen b 64 < plen a 64) (hbd : 0 ≤ bd) : ∀ t : Nat, (∀ s : Nat, s < t → bd < plen (eu p a b s).2.1 64) → 0 < plen (eu p a b t).2.2.2 64 := fun t h => by
  have hX := eu_X hP hM ha hb la lb t (fun s hs => by have := h s hs; omega)
  have := plen_bd (eu p a b t).2.2.1 64
  have := hX.2.2
  omega
