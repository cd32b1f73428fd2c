/-! THE LAW'S INVARIANT: the Model's groups; both together; what POLYS' calls do -/
abbrev ZZ : Type := ZF × ZP × ZV × ZT × ZH × Int
theorem MF_eq {p : Int} {sh sh' : SH} {S S' : SS} {F : ZF} (hs : ∀ a : Nat, a < 113 → sh' a = sh a) (h1 : S'.1 96 1 = S.1 96 1) (hP : ∀ j : Int, S'.2.2 96 j = S.2.2 96 j) (h97 : S'.2.1 97 = S.2.1 97) (h : MF p sh S F) : MF p sh' S' F := by
  obtain ⟨⟨a1, a2, a3, a4, a5, a6⟩, hF⟩ := h
  exact ⟨⟨a1, (hs 96 (by decide)).trans a2, h1.trans a3, (hP 2).trans a4, (hs 97 (by decide)).trans a5, by rw [h97]; exact a6⟩, fun i i0 i1 => by rw [MScr_97 h97]; exact hF i i0 i1⟩
theorem MP_eq {p : Int} {sh sh' : SH} {S S' : SS} {P : ZP} (hs : ∀ a : Nat, a < 113 → sh' a = sh a) (h29 : S'.1 96 29 = S.1 96 29) (hP : ∀ j : Int, S'.2.2 96 j = S.2.2 96 j) (h105 : S'.2.1 105 = S.2.1 105) (h106 : S'.2.1 106 = S.2.1 106) (h : MP p sh S P) : MP p sh' S' P := by
  obtain ⟨⟨a1, a2, a3, a4, a5, a6, a7, a8⟩, e1, e2⟩ := h
  exact ⟨⟨(hP 30).trans a1, (hP 31).trans a2, (hs 105 (by decide)).trans a3, (hs 106 (by decide)).trans a4, h29.trans a5, a6, by rw [h105]; exact a7, by rw [h106]; exact a8⟩, h105.trans e1, h106.trans e2⟩
theorem MV_eq {sh sh' : SH} {S S' : SS} {V : ZV} (hs : ∀ a : Nat, a < 113 → sh' a = sh a) (h3 : S'.1 96 3 = S.1 96 3) (hP : ∀ j : Int, S'.2.2 96 j = S.2.2 96 j) (h98 : S'.2.1 98 = S.2.1 98) (h99 : S'.2.1 99 = S.2.1 99) (h : MV sh S V) : MV sh' S' V := by
  obtain ⟨⟨a1, a2, a3, a4, a5, a6, a7, a8, a9⟩, e⟩ := h
  exact ⟨⟨(hs 96 (by decide)).trans a1, (hP 4).trans a2, (hP 5).trans a3, (hs 98 (by decide)).trans a4, (hs 99 (by decide)).trans a5, h3.trans a6, a7, by rw [h98]; exact a8, by rw [h99]; exact a9⟩, by rw [h98, h99]; exact e⟩
theorem MT_eq {sh sh' : SH} {S S' : SS} {T : ZT} (hs : ∀ a : Nat, a < 113 → sh' a = sh a) (h11 : S'.1 96 11 = S.1 96 11) (h12 : S'.1 96 12 = S.1 96 12) (h14 : S'.1 96 14 = S.1 96 14) (hP : ∀ j : Int, S'.2.2 96 j = S.2.2 96 j) (h102 : S'.2.1 102 = S.2.1 102) (h103 : S'.2.1 103 = S.2.1 103) (h104 : S'.2.1 104 = S.2.1 104) (h : MT sh S T) : MT sh' S' T := by
  obtain ⟨⟨a1, a2, a3, a4, a5, a6, a7, a8, a9, a10, a11⟩, ⟨b1, b2, b3, b4, b5, b6⟩, e1, e2⟩ := h
  refine ⟨⟨(hs 96 (by decide)).trans a1, (hP 9).trans a2, (hP 10).trans a3, (hs 102 (by decide)).trans a4, (hs 103 (by decide)).trans a5, h11.trans a6, h12.trans a7, a8, a9, by rw [h102]; exact a10, by rw [h103]; exact a11⟩, ⟨(hs 96 (by decide)).trans b1, (hP 13).trans b2, (hs 104 (by decide)).trans b3, h14.trans b4, b5, by rw [h104]; exact b6⟩, by rw [h104]; exact e1, fun t t0 t1 => ?_⟩
  have e : mtB S' t = mtB S t := by unfold mtB; rw [h102, h103]
  rw [e]; exact e2 t t0 t1
theorem MH_eq {sh sh' : SH} {S S' : SS} {H : ZH} (hs : ∀ a : Nat, a < 113 → sh' a = sh a) (hP : ∀ j : Int, S'.2.2 96 j = S.2.2 96 j) (h109 : S'.2.1 109 = S.2.1 109) (h110 : S'.2.1 110 = S.2.1 110) (h111 : S'.2.1 111 = S.2.1 111) (h112 : S'.2.1 112 = S.2.1 112) (h : MH sh S H) : MH sh' S' H := by
  obtain ⟨⟨a1, a2, a3, a4, a5, a6, a7, a8, a9, a10, a11, a12, a13, a14⟩, e⟩ := h
  exact ⟨⟨(hs 96 (by decide)).trans a1, (hP 35).trans a2, (hP 36).trans a3, (hP 37).trans a4, (hP 38).trans a5, (hs 109 (by decide)).trans a6, (hs 110 (by decide)).trans a7, (hs 111 (by decide)).trans a8, (hs 112 (by decide)).trans a9, by rw [h109]; exact a10, by rw [h110]; exact a11, by rw [h111]; exact a12, by rw [h109, h111]; exact a13, by rw [h112]; exact a14⟩, by rw [h109, h110, h111, h112]; exact e⟩
theorem MlW_eq {sh sh' : SH} {S S' : SS} (hs : ∀ a : Nat, a < 113 → sh' a = sh a) (hP : ∀ j : Int, S'.2.2 96 j = S.2.2 96 j) (h : MlW sh S) : MlW sh' S' := by
  obtain ⟨a1, a2, a3, a4⟩ := h
  exact ⟨(hP 7).trans a1, (hP 8).trans a2, (hs 100 (by decide)).trans a3, (hs 101 (by decide)).trans a4⟩
theorem MrW_eq {p : Int} {sh sh' : SH} {S S' : SS} (hs : ∀ a : Nat, a < 113 → sh' a = sh a) (hP : ∀ j : Int, S'.2.2 96 j = S.2.2 96 j) (h107 : Red p (S.2.1 107) → Red p (S'.2.1 107)) (h : MrW p sh S) : MrW p sh' S' := by
  obtain ⟨a1, a2, a3, a4, a5⟩ := h
  exact ⟨(hP 32).trans a1, (hP 33).trans a2, (hs 107 (by decide)).trans a3, (hs 108 (by decide)).trans a4, h107 a5⟩
theorem IM_cl {p : Int} {sh sh' : SH} {S S' : SS} {F : ZF} {P : ZP} {V : ZV} {T : ZT} {H : ZH} {c : Int} (hs : ∀ a : Nat, a < 113 → sh' a = sh a) (h : ∀ a : Nat, 96 ≤ a → a ≤ 112 → Eqa S S' a) (hI : IM p sh S F P V T H c) : IM p sh' S' F P V T H c := by
  obtain ⟨h1, h2, h3, h4, h5, h6, h7, h8⟩ := hI
  have e := h 96 (by decide) (by decide)
  have A : ∀ a : Nat, 96 ≤ a → a ≤ 112 → S'.2.1 a = S.2.1 a := fun a a1 a2 => (h a a1 a2).2.1
  exact ⟨MF_eq hs (e.1 1) e.2.2 (A 97 (by decide) (by decide)) h1, MP_eq hs (e.1 29) e.2.2 (A 105 (by decide) (by decide)) (A 106 (by decide) (by decide)) h2, MV_eq hs (e.1 3) e.2.2 (A 98 (by decide) (by decide)) (A 99 (by decide) (by decide)) h3, MT_eq hs (e.1 11) (e.1 12) (e.1 14) e.2.2 (A 102 (by decide) (by decide)) (A 103 (by decide) (by decide)) (A 104 (by decide) (by decide)) h4, MH_eq hs e.2.2 (A 109 (by decide) (by decide)) (A 110 (by decide) (by decide)) (A 111 (by decide) (by decide)) (A 112 (by decide) (by decide)) h5, (e.1 6).trans h6, MlW_eq hs e.2.2 h7, MrW_eq hs e.2.2 (fun r => by rw [A 107 (by decide) (by decide)]; exact r) h8⟩
theorem IM_scr {p : Int} {sh : SH} {S S' : SS} {F : ZF} {P : ZP} {V : ZV} {T : ZT} {H : ZH} {c : Int} (hd : MdW p sh S') (h : MScr S S') (hI : IM p sh S F P V T H c) : IM p sh S' F P V T H c := by
  obtain ⟨h1, h2, h3, h4, h5, h6, h7, h8⟩ := hI
  have q : ∀ j : Int, S'.2.2 96 j = S.2.2 96 j := fun j => by rw [h.2.1]
  have f := fun (k : Nat) (hk : k < 15 ∨ (29 ≤ k ∧ k ≠ 34)) => h.1 96 k (Or.inr hk)
  have A := h.2.2.1
  have e1 : S.1 96 1 = p := h1.1.2.2.1
  exact ⟨⟨hd, fun i i0 i1 => by rw [h.2.2.2.1 i i0 i1]; exact h1.2 i i0 i1⟩, MP_eq (fun _ _ => rfl) (f 29 (by decide)) q (A 105 (by decide)) (A 106 (by decide)) h2, MV_eq (fun _ _ => rfl) (f 3 (by decide)) q (A 98 (by decide)) (A 99 (by decide)) h3, MT_eq (fun _ _ => rfl) (f 11 (by decide)) (f 12 (by decide)) (f 14 (by decide)) q (A 102 (by decide)) (A 103 (by decide)) (A 104 (by decide)) h4, MH_eq (fun _ _ => rfl) q (A 109 (by decide)) (A 110 (by decide)) (A 111 (by decide)) (A 112 (by decide)) h5, (f 6 (by decide)).trans h6, MlW_eq (fun _ _ => rfl) q h7, MrW_eq (fun _ _ => rfl) q (by have r5 := h.2.2.2.2; rw [e1] at r5; exact r5) h8⟩
theorem IM_mset {p t : Int} {sh : SH} {S : SS} {F : ZF} {P : ZP} {V : ZV} {T : ZT} {H : ZH} {c : Int} {X : Int → Int} (ht : 0 ≤ t ∧ t < 8) (hX : Sup X 32) (hr : Red p X) (hI : IM p sh S F P V T H c) : IM p sh (mset S t X) (fun i => if i = t then X else F i) P V T H c := by
  obtain ⟨h1, h2, h3, h4, h5, h6, h7, h8⟩ := hI
  have A : ∀ a : Nat, a ≠ 97 → (mset S t X).2.1 a = S.2.1 a := fun a ha => putA_ne ha
  refine ⟨⟨MdW_set h1.1 hr, fun i i0 i1 => ?_⟩, MP_eq (fun _ _ => rfl) rfl (fun _ => rfl) (A 105 (by decide)) (A 106 (by decide)) h2, MV_eq (fun _ _ => rfl) rfl (fun _ => rfl) (A 98 (by decide)) (A 99 (by decide)) h3, MT_eq (fun _ _ => rfl) rfl rfl rfl (fun _ => rfl) (A 102 (by decide)) (A 103 (by decide)) (A 104 (by decide)) h4, MH_eq (fun _ _ => rfl) (fun _ => rfl) (A 109 (by decide)) (A 110 (by decide)) (A 111 (by decide)) (A 112 (by decide)) h5, h6, MlW_eq (fun _ _ => rfl) (fun _ => rfl) h7, MrW_eq (fun _ _ => rfl) (fun _ => rfl) (fun r => by rw [A 107 (by decide)]; exact r) h8⟩
  show mg (mset S t X) i = (if i = t then X else F i) ∧ Sup (if i = t then X else F i) 32
  by_cases c : i = t
  · rw [if_pos c, c, mg_set (Sup_up hX (by decide))]
    exact ⟨rfl, hX⟩
  · rw [if_neg c, mg_ne c]
    exact h1.2 i i0 i1
/-- the class shows z, the Model shows y -/
def INV2 (p : Int) (n : Nat) (sh : SH) (S : SS) (z y : ZZ) : Prop := IC p sh S z.1 z.2.1 z.2.2.1 z.2.2.2.1 z.2.2.2.2.1 z.2.2.2.2.2 ∧ IM p sh S y.1 y.2.1 y.2.2.1 y.2.2.2.1 y.2.2.2.2.1 y.2.2.2.2.2 ∧ Fr S n ∧ n = 113 + 2 * z.2.2.1.1.toNat
def INV (p : Int) (n : Nat) (sh : SH) (S : SS) : Prop := ∃ z : ZZ, INV2 p n sh S z z
section INVS
variable {p : Int} {n : Nat} {sh : SH} {S S' : SS} {F F2 : ZF} {P P2 : ZP} {V V2 : ZV} {T T2 : ZT} {H H2 : ZH} {c c2 : Int} {z y : ZZ}
theorem I_ok (h : INV2 p n sh S z z) : INV p n sh S := ⟨z, h⟩
theorem I_P (h : INV2 p n sh S z y) : IsP p := h.2.1.1.1.1
theorem I_W (h : INV2 p n sh S z y) : PbW p sh S := h.1.1.1
theorem I_L (h : INV2 p n sh S (F, P, V, T, H, c) y) : PlW p sh S P.2.2 := h.1.2.1.1
theorem I_V (h : INV2 p n sh S (F, P, V, T, H, c) y) : VwW sh S V.1 V.2.1 V.2.2 := h.1.2.2.1
theorem I_M (h : INV2 p n sh S z y) : MdW p sh S := h.2.1.1.1
theorem I_s96 (h : INV2 p n sh S z y) : sh 96 = some (.inl 10) := h.2.1.1.1.2.1
theorem I_s0 (h : INV2 p n sh S z y) : sh 0 = some (.inl 9) := h.1.1.1.1.1
theorem I_MP (h : INV2 p n sh S z (F, P, V, T, H, c)) : MpW p sh S P.2.2 := h.2.1.2.1.1
theorem I_MV (h : INV2 p n sh S z (F, P, V, T, H, c)) : MvW sh S V.1 := h.2.1.2.2.1.1
theorem I_MH (h : INV2 p n sh S z (F, P, V, T, H, c)) : MsW sh S := h.2.1.2.2.2.2.1.1
theorem I_Ml (h : INV2 p n sh S z y) : MlW sh S := h.2.1.2.2.2.2.2.2.1
theorem I_Mr (h : INV2 p n sh S z y) : MrW p sh S := h.2.1.2.2.2.2.2.2.2
theorem I_pr (h : INV2 p n sh S (F, P, V, T, H, c) y) {i : Int} (hi : 0 ≤ i ∧ i < 8) : pr S i = F i := h.1.1.2 i hi.1 hi.2
theorem I_mg (h : INV2 p n sh S z (F, P, V, T, H, c)) {i : Int} (hi : 0 ≤ i ∧ i < 8) : mg S i = F i := (h.2.1.1.2 i hi.1 hi.2).1
theorem I_SR (h : INV2 p n sh S (F, P, V, T, H, c) y) {i : Int} (hi : 0 ≤ i ∧ i < 8) : SR p 32 (F i) := by
  have hR := h.1.1.1.2.2.2 i hi.1 hi.2
  rw [← I_pr h hi]
  exact ⟨hR.2.2.2.1, hR.2.2.2.2⟩
theorem I_len (h : INV2 p n sh S (F, P, V, T, H, c) y) {i : Int} (hi : 0 ≤ i ∧ i < 8) : plen (F i) 80 = plen (F i) 32 := plen_more (I_SR h hi).1 (by decide)
theorem I_s32 (h : INV2 p n sh S z (F, P, V, T, H, c)) : ∀ r : Int, 0 ≤ r → r < 8 → Sup (mg S r) 32 := fun r r0 r1 => by
  rw [(h.2.1.1.2 r r0 r1).1]; exact (h.2.1.1.2 r r0 r1).2
theorem I_D2 (hI : INV2 p n sh S (F, P, V, T, H, c) y) (hW : PbW p sh S') (hL : PlW p sh S' P.2.2) (hS : Same D2 S S') (hF : ∀ i : Int, 0 ≤ i → i < 8 → pr S' i = F2 i) : INV2 p n sh S' (F2, P, V, T, H, c) y := by
  obtain ⟨h1, h2, h3, h4⟩ := hI
  have hn : 113 ≤ n := by omega
  refine ⟨IC_D2 hW hL hS hF h1, IM_cl (fun _ _ => rfl) (fun a a1 a2 => Same_Eqa hS (by unfold D2 D1; omega)) h2, fun a ha => ?_, h4⟩
  have e := Same_Eqa (a := a) hS (by unfold D2 D1; omega)
  obtain ⟨f1, f2, f3⟩ := h3 a ha
  exact ⟨fun k => (e.1 k).trans (f1 k), e.2.1.trans f2, (funext e.2.2).trans f3⟩
theorem D1_D2 {S S' : SS} (h : Same D1 S S') : Same D2 S S' := ⟨fun a k ha => h.1 a k (fun z => ha (Or.inl z)), fun a ha => h.2.1 a (fun z => ha (Or.inl z)), fun a k ha => h.2.2 a k (fun z => ha (Or.inl z))⟩
theorem PlW_D1 (hI : INV2 p n sh S (F, P, V, T, H, c) y) (hS : Same D1 S S') : PlW p sh S' P.2.2 := (CP_sm (fun _ _ => rfl) (fun a a1 a2 => Same_Eqa hS (by unfold D1; omega)) hI.1.2.1).1
/-- a POLY became X in the class -/
theorem I_E {t : Int} {X : Int → Int} (hI : INV2 p n sh S (F, P, V, T, H, c) y) (hE : PbE p sh S t X S') : INV2 p n sh S' ((fun i => if i = t then X else F i), P, V, T, H, c) y := by
  refine I_D2 hI hE.1 (PlW_D1 hI hE.2.1) (D1_D2 hE.2.1) (fun i i0 i1 => ?_)
  show pr S' i = if i = t then X else F i
  rw [hE.2.2 i i0 i1, I_pr hI ⟨i0, i1⟩]
/-- only what the class works in was changed -/
theorem I_D1 (hI : INV2 p n sh S (F, P, V, T, H, c) y) (hW : PbW p sh S') (hS : Same D1 S S') (hF : ∀ i : Int, 0 ≤ i → i < 8 → pr S' i = pr S i) : INV2 p n sh S' (F, P, V, T, H, c) y :=
  I_D2 hI hW (PlW_D1 hI hS) (D1_D2 hS) (fun i i0 i1 => (hF i i0 i1).trans (I_pr hI ⟨i0, i1⟩))
theorem I_md (hI : INV2 p n sh S z (F, P, V, T, H, c)) (h : ∀ a : Nat, (a < 96 ∨ 113 ≤ a) → Eqa S S' a) (hM : IM p sh S' F2 P2 V2 T2 H2 c2) : INV2 p n sh S' z (F2, P2, V2, T2, H2, c2) := by
  obtain ⟨h1, h2, h3, h4⟩ := hI
  refine ⟨IC_md h h1, hM, fun a ha => ?_, h4⟩
  have e := h a (by omega)
  obtain ⟨f1, f2, f3⟩ := h3 a ha
  exact ⟨fun k => (e.1 k).trans (f1 k), e.2.1.trans f2, (funext e.2.2).trans f3⟩
theorem MScr_Eqa {a : Nat} (h : MScr S S') (ha : a < 96 ∨ 113 ≤ a) : Eqa S S' a := ⟨fun k => h.1 a k (Or.inl (by omega)), h.2.2.1 a (by omega), fun j => by rw [h.2.1]⟩
theorem I_scr (hI : INV2 p n sh S z (F, P, V, T, H, c)) (hd : MdW p sh S') (h : MScr S S') : INV2 p n sh S' z (F, P, V, T, H, c) := I_md hI (fun _ ha => MScr_Eqa h ha) (IM_scr hd h hI.2.1)
theorem I_set {t : Int} {X : Int → Int} (hI : INV2 p n sh S z (F, P, V, T, H, c)) (ht : 0 ≤ t ∧ t < 8) (hX : Sup X 32) (hr : Red p X) : INV2 p n sh (mset S t X) z ((fun i => if i = t then X else F i), P, V, T, H, c) := I_md hI (fun _ ha => Eqa_A (by omega)) (IM_mset ht hX hr hI.2.1)
/-- scratch rows above the POLYS -/
theorem I_set8 {t : Int} {X : Int → Int} (hI : INV2 p n sh S z (F, P, V, T, H, c)) (ht : 8 ≤ t) (hr : Red p X) : INV2 p n sh (mset S t X) z (F, P, V, T, H, c) := I_scr hI (MdW_set (I_M hI) hr) (MScr_set MScr_rf ht)
end INVS
