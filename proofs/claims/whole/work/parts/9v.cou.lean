/-! two factors that make the same of a differ by a multiple of b over the common divisor -/
theorem Cb_div {p : Int} {N : Nat} {A B F G A' C : Int → Int} (hP : IsP p) (hG : SR p N G) (hl : 0 < plen G N) (hF : Fs F) (hA' : Fs A') (hC : Fs C) (hA : ∀ j : Int, Cg p (conv A' G j) (A j)) (hB : ∀ j : Int, Cg p (conv C G j) (B j)) (h : Cb p B A F G) : ∃ s : Int → Int, Fs s ∧ ∀ j : Int, Cg p (conv F A' j + conv s C j) (one j) := by
  obtain ⟨s, fs, cs⟩ := h
  refine ⟨s, fs, fun j => ?_⟩
  have zG := SR_zn hG
  have f1 : Fs (fun j => (conv F A' j + conv s C j) + (-1) * one j) := Fs_add (Fs_add (Fs_conv hF hA') (Fs_conv fs hC)) (Fs_mul (Fs_sup (one_sup (N := 1) (by decide))))
  have hz : ∀ i : Int, Cg p (conv (fun j => (conv F A' j + conv s C j) + (-1) * one j) G i) 0 := fun i => by
    have e1 : conv (fun j => (conv F A' j + conv s C j) + (-1) * one j) G i = conv F (conv A' G) i + conv s (conv C G) i + (-1) * G i := by
      rw [conv_addl (a := fun j => conv F A' j + conv s C j) (a' := fun j => (-1) * one j), conv_addl (a := conv F A') (a' := conv s C), conv_mull, conv_one zG, conv_assoc hF.1 hA'.1 zG, conv_assoc fs.1 hC.1 zG]
    rw [e1]
    have e2 : Cg p (conv F (conv A' G) i + conv s (conv C G) i) (conv F A i + conv s B i) := Cg_add (conv_cg (fun _ => Cg_rf) hA) (conv_cg (fun _ => Cg_rf) hB)
    exact Cg_tr (Cg_add (Cg_tr e2 (cs i)) (Cg_rf (a := (-1) * G i))) (Cg_of (by omega))
  have e := conv_can hP f1 hG hl hz j
  exact Cg_tr (Cg_of (show conv F A' j + conv s C j = (conv F A' j + conv s C j + (-1) * one j) + one j by omega)) (Cg_tr (Cg_add e (Cg_rf (a := one j))) (Cg_of (Int.zero_add _)))
