/-! f times a is o, but for a multiple of b -/
def Cb (p : Int) (b a f o : Int → Int) : Prop := ∃ s : Int → Int, Fs s ∧ ∀ j : Int, Cg p (conv f a j + conv s b j) (o j)
theorem Cb_step {p : Int} {a b f o v w q r v' : Int → Int} (hq : Fs q) (ha : Zn a) (hb : Zn b) (hv : Zn v) (h1 : Cb p b a f o) (h2 : Cb p b a v w) (hr : ∀ j : Int, Cg p (conv q w j + r j) (o j)) (hv' : ∀ j : Int, Cg p (v' j) (f j + (-1) * conv q v j)) : Cb p b a v' r := by
  obtain ⟨s, fs, cs⟩ := h1
  obtain ⟨u, fu, cu⟩ := h2
  refine ⟨fun j => s j + (-1) * conv q u j, Fs_add fs (Fs_mul (Fs_conv hq fu)), fun j => ?_⟩
  have e1 : Cg p (conv v' a j) (conv (fun j => f j + (-1) * conv q v j) a j) := conv_cg hv' (fun _ => Cg_rf)
  have e2 : conv (fun j => f j + (-1) * conv q v j) a j = conv f a j + (-1) * conv q (conv v a) j := by
    rw [conv_addl, conv_mull, conv_assoc hq.1 hv ha]
  have e3 : conv (fun j => s j + (-1) * conv q u j) b j = conv s b j + (-1) * conv q (conv u b) j := by
    rw [conv_addl, conv_mull, conv_assoc hq.1 fu.1 hb]
  have e4 : Cg p (conv q (conv v a) j + conv q (conv u b) j) (conv q w j) := by
    rw [← conv_addr]
    exact conv_cg (fun _ => Cg_rf) cu
  rw [e3]
  have e5 := Cg_add e1 (Cg_rf (a := conv s b j + (-1) * conv q (conv u b) j))
  rw [e2] at e5
  have e6 := Cg_sub (cs j) e4
  have e7 : Cg p (o j - conv q w j) (r j) := Cg_tr (Cg_sub (Cg_sy (hr j)) (Cg_rf (a := conv q w j))) (Cg_of (by omega))
  exact Cg_tr e5 (Cg_tr (Cg_of (by omega)) (Cg_tr e6 e7))
