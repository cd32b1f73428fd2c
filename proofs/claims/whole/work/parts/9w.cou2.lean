/-! so they have one rest by it -/
theorem Cb_uq {p : Int} {A' C F U s u : Int → Int} (hA' : Fs A') (hC : Fs C) (hF : Fs F) (hU : Fs U) (hs : Fs s) (hu : Fs u) (h1 : ∀ j : Int, Cg p (conv F A' j + conv s C j) (one j)) (h2 : ∀ j : Int, Cg p (conv U A' j + conv u C j) (one j)) : ∃ k : Int → Int, Fs k ∧ ∀ j : Int, Cg p (conv k C j + U j) (F j) := by
  -- F = F (U A' + u C) = U (F A') + F u C = U (one - s C) + F u C
  refine ⟨fun j => conv F u j + (-1) * conv U s j, Fs_add (Fs_conv hF hu) (Fs_mul (Fs_conv hU hs)), fun j => ?_⟩
  have zone : Zn one := (Fs_sup (one_sup (N := 1) (by decide))).1
  have e1 : conv (fun j => conv F u j + (-1) * conv U s j) C j = conv F (conv u C) j + (-1) * conv U (conv s C) j := by
    rw [conv_addl, conv_mull, conv_assoc hF.1 hu.1 hC.1, conv_assoc hU.1 hs.1 hC.1]
  have a1 : Cg p (conv F (conv U A') j + conv F (conv u C) j) (F j) := by
    rw [← conv_addr]
    refine Cg_tr (conv_cg (fun _ => Cg_rf) h2) (Cg_of ?_)
    rw [conv_comm hF.1 zone, conv_one hF.1]
  have a2 : Cg p (conv U (conv F A') j + conv U (conv s C) j) (U j) := by
    rw [← conv_addr]
    refine Cg_tr (conv_cg (fun _ => Cg_rf) h1) (Cg_of ?_)
    rw [conv_comm hU.1 zone, conv_one hU.1]
  have a3 : conv U (conv F A') j = conv F (conv U A') j := by
    rw [← conv_assoc hU.1 hF.1 hA'.1, ← conv_assoc hF.1 hU.1 hA'.1]
    have : conv U F = conv F U := funext fun i => conv_comm hU.1 hF.1
    rw [this]
  rw [a3] at a2
  rw [e1]
  have a4 := Cg_sub a1 a2
  exact Cg_tr (Cg_of (by omega)) (Cg_tr (Cg_add a4 (Cg_rf (a := U j))) (Cg_of (by omega)))
