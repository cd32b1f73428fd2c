/-! a product is 0 only where a factor is -/
theorem conv_can {p : Int} {N : Nat} {Q D : Int → Int} (hP : IsP p) (hQ : Fs Q) (hD : SR p N D) (hm : 0 < plen D N) (h : ∀ j : Int, Cg p (conv Q D j) 0) : ∀ j : Int, Cg p (Q j) 0 := by
  have hpb := hP.bd
  obtain ⟨zq, L, hL⟩ := hQ
  have hq' : ∀ j : Int, Cg p (conv (fun j => Q j % p) D j) 0 := fun j => Cg_tr (conv_cg (fun _ => Cg_em) (fun _ => Cg_rf)) (h j)
  have rq : Red p (fun j => Q j % p) := fun j => em_bd (by omega)
  have sq : Sup (fun j => Q j % p) L.toNat := fun j hj => by
    show Q j % p = 0
    by_cases c : j < 0
    · rw [zq j c]; rfl
    · rw [hL j (by omega)]; rfl
  have hQj : ∀ j : Int, Cg p (Q j) ((fun j => Q j % p) j) := fun j => Cg_sy Cg_em
  generalize (fun j => Q j % p) = q at hq' rq sq hQj
  have hDl := plen_lead hm
  have hDr := hD.2 (plen D N - 1)
  have hb := plen_bd q L.toNat
  by_cases hK : 0 < plen q L.toNat
  · have ht := conv_top (d := q) (b := D) (k := plen q L.toNat - 1) (m := plen D N) (fun j hj => Sup_z sq (by omega)) (fun j hj => Sup_z hD.1 (by omega)) (by omega) (by omega)
    have hQl := plen_lead hK
    have hQr := rq (plen q L.toNat - 1)
    have e := hq' (plen q L.toNat - 1 + plen D N - 1)
    rw [ht] at e
    exact absurd (Cg_z (Cg_nz hP (show 0 < q (plen q L.toNat - 1) ∧ q (plen q L.toNat - 1) < p by omega) e) hDr) hDl
  · intro j
    have z : q j = 0 := Sup_z sq (by omega)
    have := hQj j
    rw [z] at this
    exact this
