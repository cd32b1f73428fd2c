/-! THE LAW'S INVARIANT: groups of the class's cells, groups of the Model's, what keeps them -/
abbrev ZX : Type := List Int × List Int × List Int
abbrev ZF : Type := Int → Int → Int
abbrev ZP : Type := (Int → Int) × (Int → Int) × Int
abbrev ZV : Type := Int × (Int → Int) × (Int → Int)
abbrev ZT : Type := Int × (Int → Int) × Int × Int × (Int → ZX)
abbrev ZH : Type := (Int → Int) × (Int → Int) × (Int → Int → Int)
def Eqa (S S' : SS) (a : Nat) : Prop := (∀ k : Nat, S'.1 a k = S.1 a k) ∧ S'.2.1 a = S.2.1 a ∧ ∀ j : Int, S'.2.2 a j = S.2.2 a j
theorem Eqa_rf {S : SS} {a : Nat} : Eqa S S a := ⟨fun _ => rfl, rfl, fun _ => rfl⟩
theorem Eqa_tr {S S' S2 : SS} {a : Nat} (h : Eqa S S' a) (h' : Eqa S' S2 a) : Eqa S S2 a := ⟨fun k => (h'.1 k).trans (h.1 k), h'.2.1.trans h.2.1, fun j => (h'.2.2 j).trans (h.2.2 j)⟩
theorem Same_Eqa {D : Nat → Prop} {S S' : SS} {a : Nat} (h : Same D S S') (ha : ¬ D a) : Eqa S S' a := ⟨fun k => h.1 a k ha, h.2.1 a ha, fun j => h.2.2 a j ha⟩
theorem Eqa_F {S : SS} {a b k : Nat} {v : Int} (h : a ≠ b) : Eqa S (setF S b k v) a := ⟨fun j => setF_ne (Or.inl h), rfl, fun _ => rfl⟩
theorem Eqa_A {S : SS} {a b : Nat} {ys : Int → Int} (h : a ≠ b) : Eqa S (putA S b ys) a := ⟨fun _ => rfl, putA_ne h, fun _ => rfl⟩
theorem Eqa_sA {S : SS} {a b : Nat} {i v : Int} (h : a ≠ b) : Eqa S (setA S b i v) a := ⟨fun _ => rfl, putA_ne h, fun _ => rfl⟩
theorem Row_sm {p : Int} {sh sh' : SH} {S S' : SS} {a N : Nat} (h : Row p sh S a N) (s1 : sh' a = sh a) (s2 : sh' (a + 1) = sh (a + 1)) (e1 : Eqa S S' a) (e2 : Eqa S S' (a + 1)) : Row p sh' S' a N := by
  have e : rv S' a = rv S a := e2.2.1
  exact ⟨⟨s1.trans h.1.1, s2.trans h.1.2.1, (e1.2.2 0).trans h.1.2.2⟩, h.2.1, by rw [e1.1, e]; exact h.2.2.1, by rw [e]; exact h.2.2.2.1, by rw [e]; exact h.2.2.2.2⟩
-- the class's groups
def CF (p : Int) (sh : SH) (S : SS) (F : ZF) : Prop := PbW p sh S ∧ ∀ i : Int, 0 ≤ i → i < 8 → pr S i = F i
def CP (p : Int) (sh : SH) (S : SS) (P : ZP) : Prop := PlW p sh S P.2.2 ∧ S.2.1 31 = P.1 ∧ S.2.1 32 = P.2.1 ∧ ∃ a b c : Nat, PlR p sh S a b c
def CV (sh : SH) (S : SS) (V : ZV) : Prop := VwW sh S V.1 V.2.1 V.2.2
def CT (sh : SH) (S : SS) (T : ZT) : Prop := TaW sh S T.1 ∧ ctB S T.1 = T.2.1 ∧ S.1 0 10 = T.2.2.1 ∧ S.1 0 11 = T.2.2.2.1 ∧ (1 ≤ T.2.2.1 ∧ T.2.2.1 ≤ 6) ∧ (0 ≤ T.2.2.2.1 ∧ T.2.2.2.1 < T.2.2.1) ∧ (∀ t : Int, 0 ≤ t → t < 6 → TxW sh S (ta t)) ∧ (∀ t : Int, 0 ≤ t → t < T.2.2.1 → TxP S (ta t) (T.2.2.2.2 t)) ∧ (∀ i : Int, ¬ (0 ≤ i ∧ i < 6) → S.2.1 10 i = 0) ∧ sh 43 = some (.inl 1) ∧ S.2.2 43 0 = some 5
def CH (sh : SH) (S : SS) (H : ZH) : Prop := PsW sh S ∧ PsI S ∧ ∀ s : Int, 0 ≤ s → s < 4 → S.1 (sa s) 0 = H.1 s ∧ (H.1 s ≠ -1 → S.1 (sa s) 1 = H.2.1 s ∧ ∀ i : Int, 0 ≤ i → i < H.2.1 s → S.2.1 (sa s + 1) i = H.2.2 s i)
def IC (p : Int) (sh : SH) (S : SS) (F : ZF) (P : ZP) (V : ZV) (T : ZT) (H : ZH) (c : Int) : Prop := CF p sh S F ∧ CP p sh S P ∧ CV sh S V ∧ CT sh S T ∧ CH sh S H ∧ S.1 0 6 = c
-- the Model's
def MF (p : Int) (sh : SH) (S : SS) (F : ZF) : Prop := MdW p sh S ∧ ∀ i : Int, 0 ≤ i → i < 8 → mg S i = F i ∧ Sup (F i) 32
def MP (p : Int) (sh : SH) (S : SS) (P : ZP) : Prop := MpW p sh S P.2.2 ∧ S.2.1 105 = P.1 ∧ S.2.1 106 = P.2.1
def MV (sh : SH) (S : SS) (V : ZV) : Prop := MvW sh S V.1 ∧ ∀ i : Int, 0 ≤ i → i < V.1 → S.2.1 98 i = V.2.1 i ∧ S.2.1 99 i = V.2.2 i
def MT (sh : SH) (S : SS) (T : ZT) : Prop := MxW sh S T.2.2.1 T.2.2.2.1 ∧ MqW sh S T.1 ∧ bt T.1 (S.2.1 104) = T.2.1 ∧ ∀ t : Int, 0 ≤ t → t < T.2.2.1 → ptx (tkk (mtB S t)) = .inr (T.2.2.2.2 t)
def MH (sh : SH) (S : SS) (H : ZH) : Prop := MsW sh S ∧ ∀ s : Int, 0 ≤ s → s < 4 → (S.2.1 109 s = 0 ∧ H.1 s = -1) ∨ (S.2.1 109 s = 1 ∧ H.1 s ≠ -1 ∧ S.2.1 110 s = H.1 s ∧ S.2.1 111 s = H.2.1 s ∧ ∀ i : Int, 0 ≤ i → i < H.2.1 s → S.2.1 112 (40 * s + i) = H.2.2 s i)
def IM (p : Int) (sh : SH) (S : SS) (F : ZF) (P : ZP) (V : ZV) (T : ZT) (H : ZH) (c : Int) : Prop := MF p sh S F ∧ MP p sh S P ∧ MV sh S V ∧ MT sh S T ∧ MH sh S H ∧ S.1 96 6 = c ∧ MlW sh S ∧ MrW p sh S
-- transfers, the class's
theorem PbK_sm {sh sh' : SH} {S S' : SS} (hs : ∀ a : Nat, a < 113 → sh' a = sh a) (e : ∀ (a : Nat) (k : Int), (a = 0 ∨ a = 1 ∨ a = 9 ∨ a = 11) → S'.2.2 a k = S.2.2 a k) (hK : PbK sh S) : PbK sh' S' := by
  obtain ⟨k0, q0, q1, q2, q3, q4, q7, q8, q9, q12, q13, q14, s1, s4, s9, s10, s11, f1, f2, f3⟩ := PbK_P e hK
  exact ⟨(hs 0 (by decide)).trans k0, q0, q1, q2, q3, q4, q7, q8, q9, q12, q13, q14, (hs 1 (by decide)).trans s1, (hs 4 (by decide)).trans s4, (hs 9 (by decide)).trans s9, (hs 10 (by decide)).trans s10, (hs 11 (by decide)).trans s11, f1, f2, f3⟩
theorem AlgW_sm {p : Int} {sh sh' : SH} {S S' : SS} (hs : ∀ a : Nat, a < 113 → sh' a = sh a) (h : ∀ a : Nat, 12 ≤ a → a ≤ 29 → Eqa S S' a) (hA : AlgW p sh S) : AlgW p sh' S' := by
  obtain ⟨⟨h1, h2, h3, p0, p1, p2, p3, p4, r14, r16, r18, r20⟩, o, w, f, v, x5, x6, x7, x8, hP4, ro, rw_, rf, rv_⟩ := hA
  have hR : ∀ (a N : Nat), 12 ≤ a → a + 1 ≤ 29 → Row p sh S a N → Row p sh' S' a N := fun a N a1 a2 r => Row_sm r (hs a (by omega)) (hs (a + 1) (by omega)) (h a a1 (by omega)) (h (a + 1) (by omega) a2)
  have h13 := (h 13 (by decide) (by decide)).2.2
  have hQ := hP4
  obtain ⟨c1, c2, c3, c4, -⟩ := hQ
  refine ⟨⟨h1, ⟨(hs 12 (by decide)).trans h2.1, ((h 12 (by decide) (by decide)).1 0).trans h2.2⟩, (hs 13 (by decide)).trans h3, (h13 0).trans p0, (h13 1).trans p1, (h13 2).trans p2, (h13 3).trans p3, (h13 4).trans p4, hR 14 64 (by decide) (by decide) r14, hR 16 64 (by decide) (by decide) r16, hR 18 64 (by decide) (by decide) r18, hR 20 2 (by decide) (by decide) r20⟩, o, w, f, v, (h13 5).trans x5, (h13 6).trans x6, (h13 7).trans x7, (h13 8).trans x8, hP4, hR o 64 (by omega) (by omega) ro, hR w 64 (by omega) (by omega) rw_, hR f 64 (by omega) (by omega) rf, hR v 64 (by omega) (by omega) rv_⟩
def RgF (a : Nat) : Prop := a = 1 ∨ a = 2 ∨ a = 3 ∨ a = 9 ∨ a = 11 ∨ (12 ≤ a ∧ a ≤ 29) ∨ (48 ≤ a ∧ a ≤ 63)
theorem pl_bd {i : Int} (h : 0 ≤ i ∧ i < 8) : 48 ≤ pl i ∧ pl i + 1 ≤ 63 := by unfold pl; omega
theorem sa_bd {i : Int} (h : 0 ≤ i ∧ i < 4) : 64 ≤ sa i ∧ sa i + 1 ≤ 71 := by unfold sa; omega
theorem ta_bd {i : Int} (h : 0 ≤ i ∧ i < 6) : 72 ≤ ta i ∧ ta i + 3 ≤ 95 := by unfold ta; omega
theorem CF_sm {p : Int} {sh sh' : SH} {S S' : SS} {F : ZF} (hs : ∀ a : Nat, a < 113 → sh' a = sh a) (h0 : ∀ j : Int, S'.2.2 0 j = S.2.2 0 j) (h : ∀ a : Nat, RgF a → Eqa S S' a) (hF : CF p sh S F) : CF p sh' S' F := by
  obtain ⟨⟨hK, hA, hM, hR⟩, hF⟩ := hF
  refine ⟨⟨PbK_sm hs (fun a k ha => ?_) hK, AlgW_sm hs (fun a a1 a2 => h a (by unfold RgF; omega)) hA, Row_sm hM (hs 2 (by decide)) (hs 3 (by decide)) (h 2 (by unfold RgF; omega)) (h 3 (by unfold RgF; omega)), fun i i0 i1 => ?_⟩, fun i i0 i1 => ?_⟩
  · rcases ha with rfl | ha
    · exact h0 k
    · exact (h a (by unfold RgF; omega)).2.2 k
  · have hb := pl_bd ⟨i0, i1⟩
    exact Row_sm (hR i i0 i1) (hs _ (by omega)) (hs _ (by omega)) (h _ (by unfold RgF; omega)) (h _ (by unfold RgF; omega))
  · have hb := pl_bd ⟨i0, i1⟩
    have e : pr S' i = pr S i := (h (pl i + 1) (by unfold RgF; omega)).2.1
    rw [e]; exact hF i i0 i1
theorem CP_sm {p : Int} {sh sh' : SH} {S S' : SS} {P : ZP} (hs : ∀ a : Nat, a < 113 → sh' a = sh a) (h : ∀ a : Nat, 30 ≤ a → a ≤ 42 → Eqa S S' a) (hP : CP p sh S P) : CP p sh' S' P := by
  obtain ⟨⟨h30, p0, p1, p2, p3, p5, p6, h31, h32, hm, hmb, r31, r32, R33, R35⟩, e31, e32, a, b, c, x7, x8, x9, hP3, ra, rb, rc⟩ := hP
  have hR : ∀ (a N : Nat), 30 ≤ a → a + 1 ≤ 42 → Row p sh S a N → Row p sh' S' a N := fun a N a1 a2 r => Row_sm r (hs a (by omega)) (hs (a + 1) (by omega)) (h a a1 (by omega)) (h (a + 1) (by omega) a2)
  have q := (h 30 (by decide) (by decide)).2.2
  have q31 := (h 31 (by decide) (by decide)).2.1
  have q32 := (h 32 (by decide) (by decide)).2.1
  have hQ := hP3
  obtain ⟨c1, c2, c3, -⟩ := hQ
  exact ⟨⟨(hs 30 (by decide)).trans h30, (q 0).trans p0, (q 1).trans p1, (q 2).trans p2, (q 3).trans p3, (q 5).trans p5, (q 6).trans p6, (hs 31 (by decide)).trans h31, (hs 32 (by decide)).trans h32, ((h 30 (by decide) (by decide)).1 4).trans hm, hmb, by rw [q31]; exact r31, by rw [q32]; exact r32, hR 33 64 (by decide) (by decide) R33, hR 35 64 (by decide) (by decide) R35⟩, q31.trans e31, q32.trans e32, a, b, c, (q 7).trans x7, (q 8).trans x8, (q 9).trans x9, hP3, hR a 64 (by omega) (by omega) ra, hR b 64 (by omega) (by omega) rb, hR c 64 (by omega) (by omega) rc⟩
theorem CV_sm {sh sh' : SH} {S S' : SS} {V : ZV} (hs : ∀ a : Nat, 113 ≤ a → a < 113 + 2 * V.1.toNat → sh' a = sh a) (h5 : S'.1 0 5 = S.1 0 5) (h4 : ∀ j : Int, S'.2.2 4 j = S.2.2 4 j) (h : ∀ a : Nat, 113 ≤ a → a < 113 + 2 * V.1.toNat → Eqa S S' a) (hV : CV sh S V) : CV sh' S' V := by
  obtain ⟨v1, v2, v3⟩ := hV
  refine ⟨h5.trans v1, v2, fun i i0 i1 => ?_⟩
  obtain ⟨w1, ⟨y1, y2, y3, y4, y5, y6⟩, w3⟩ := v3 i i0 i1
  have hb : 113 ≤ wa i ∧ wa i + 1 < 113 + 2 * V.1.toNat := by unfold wa; omega
  have e1 := h (wa i) (by omega) (by omega)
  have e2 := h (wa i + 1) (by omega) (by omega)
  exact ⟨(h4 i).trans w1, ⟨(hs _ (by omega) (by omega)).trans y1, (hs _ (by omega) (by omega)).trans y2, (e1.2.2 2).trans y3, (e1.1 0).trans y4, (e1.1 1).trans y5, e2.2.1.trans y6⟩, w3⟩
theorem TxW_sm {sh sh' : SH} {S S' : SS} {x : Nat} (hs : ∀ a : Nat, x ≤ a → a ≤ x + 3 → sh' a = sh a) (h : ∀ a : Nat, x ≤ a → a ≤ x + 3 → Eqa S S' a) (hT : TxW sh S x) : TxW sh' S' x := by
  obtain ⟨t1, t2, t3, t4, t5, t6, t7, t8, t9, t10, t11, t12, t13⟩ := hT
  have e0 := h x (by omega) (by omega)
  have e1 := (h (x + 1) (by omega) (by omega)).2.1
  have e2 := (h (x + 2) (by omega) (by omega)).2.1
  have e3 := (h (x + 3) (by omega) (by omega)).2.1
  exact ⟨(hs x (by omega) (by omega)).trans t1, (hs (x + 1) (by omega) (by omega)).trans t2, (hs (x + 2) (by omega) (by omega)).trans t3, (hs (x + 3) (by omega) (by omega)).trans t4, (e0.2.2 0).trans t5, (e0.2.2 2).trans t6, (e0.2.2 4).trans t7, by rw [e0.1]; exact t8, by rw [e0.1]; exact t9, by rw [e0.1]; exact t10, by rw [e2]; exact t11, by rw [e1]; exact t12, by rw [e3]; exact t13⟩
theorem TxP_sm {S S' : SS} {x : Nat} {X : ZX} (h1 : S'.1 x 1 = S.1 x 1) (h3 : S'.1 x 3 = S.1 x 3) (a1 : S'.2.1 (x + 1) = S.2.1 (x + 1)) (a2 : S'.2.1 (x + 2) = S.2.1 (x + 2)) (hT : TxP S x X) : TxP S' x X := by
  obtain ⟨t1, t2, t3, t4, t5, t6⟩ := hT
  exact ⟨h1.trans t1, h3.trans t2, by rw [a2]; exact t3, by rw [a2]; exact t4, by rw [a2]; exact t5, by rw [a1]; exact t6⟩
theorem TaW_sm {sh sh' : SH} {S S' : SS} {N : Int} (hs : ∀ a : Nat, a < 113 → sh' a = sh a) (h : ∀ a : Nat, 5 ≤ a → a ≤ 8 → Eqa S S' a) (hT : TaW sh S N) : TaW sh' S' N := by
  obtain ⟨t1, t2, t3, t4, t5, t6, t7, t8, t9, t10⟩ := hT
  have e5 := h 5 (by decide) (by decide)
  exact ⟨(hs 5 (by decide)).trans t1, (e5.2.2 0).trans t2, (e5.2.2 2).trans t3, (e5.2.2 3).trans t4, (hs 6 (by decide)).trans t5, (hs 7 (by decide)).trans t6, (hs 8 (by decide)).trans t7, (e5.1 1).trans t8, t9, by rw [(h 6 (by decide) (by decide)).2.1]; exact t10⟩
theorem CT_sm {sh sh' : SH} {S S' : SS} {T : ZT} (hs : ∀ a : Nat, a < 113 → sh' a = sh a) (h10 : S'.1 0 10 = S.1 0 10) (h11 : S'.1 0 11 = S.1 0 11) (ha : S'.2.1 10 = S.2.1 10) (h43 : S'.2.2 43 0 = S.2.2 43 0) (h : ∀ a : Nat, (5 ≤ a ∧ a ≤ 8) ∨ (72 ≤ a ∧ a ≤ 95) → Eqa S S' a) (hT : CT sh S T) : CT sh' S' T := by
  obtain ⟨t1, t2, t3, t4, t5, t6, t7, t8, t9, t10, t11⟩ := hT
  refine ⟨TaW_sm hs (fun a a1 a2 => h a (Or.inl ⟨a1, a2⟩)) t1, ?_, h10.trans t3, h11.trans t4, t5, t6, fun t u0 u1 => ?_, fun t u0 u1 => ?_, by rw [ha]; exact t9, (hs 43 (by decide)).trans t10, h43.trans t11⟩
  · unfold ctB at t2 ⊢
    rw [(h 6 (by omega)).2.1]
    exact t2
  · have hb := ta_bd ⟨u0, u1⟩
    exact TxW_sm (fun a a1 a2 => hs a (by omega)) (fun a a1 a2 => h a (by omega)) (t7 t u0 u1)
  · have hb := ta_bd (i := t) ⟨u0, by omega⟩
    have e0 := h (ta t) (by omega)
    exact TxP_sm (e0.1 1) (e0.1 3) (h (ta t + 1) (by omega)).2.1 (h (ta t + 2) (by omega)).2.1 (t8 t u0 u1)
theorem CH_sm {sh sh' : SH} {S S' : SS} {H : ZH} (hs : ∀ a : Nat, a < 113 → sh' a = sh a) (h : ∀ a : Nat, 64 ≤ a → a ≤ 71 → Eqa S S' a) (hH : CH sh S H) : CH sh' S' H := by
  obtain ⟨h1, h2, h3⟩ := hH
  refine ⟨fun i i0 i1 => ?_, fun i j i0 i1 => ?_, fun s s0 s1 => ?_⟩
  · have hb := sa_bd ⟨i0, i1⟩
    obtain ⟨g1, g2, g3, g4, g5, g6⟩ := h1 i i0 i1
    have e0 := h (sa i) (by omega) (by omega)
    exact ⟨(hs _ (by omega)).trans g1, (hs _ (by omega)).trans g2, (e0.2.2 2).trans g3, by rw [e0.1]; exact g4, by rw [e0.1]; exact g5, by rw [(h (sa i + 1) (by omega) (by omega)).2.1]; exact g6⟩
  · have hb := sa_bd ⟨i0, i1⟩
    rw [(h (sa i + 1) (by omega) (by omega)).2.1]
    exact h2 i j i0 i1
  · have hb := sa_bd ⟨s0, s1⟩
    have e0 := h (sa s) (by omega) (by omega)
    rw [e0.1, e0.1, (h (sa s + 1) (by omega) (by omega)).2.1]
    exact h3 s s0 s1
/-- what leaves the class's cells as they are -/
theorem IC_md {p : Int} {sh : SH} {S S' : SS} {F : ZF} {P : ZP} {V : ZV} {T : ZT} {H : ZH} {c : Int} (h : ∀ a : Nat, (a < 96 ∨ 113 ≤ a) → Eqa S S' a) (hI : IC p sh S F P V T H c) : IC p sh S' F P V T H c := by
  obtain ⟨h1, h2, h3, h4, h5, h6⟩ := hI
  have e0 := h 0 (by omega)
  exact ⟨CF_sm (fun _ _ => rfl) e0.2.2 (fun a ha => h a (by unfold RgF at ha; omega)) h1, CP_sm (fun _ _ => rfl) (fun a a1 a2 => h a (by omega)) h2, CV_sm (fun _ _ _ => rfl) (e0.1 5) (h 4 (by omega)).2.2 (fun a a1 _ => h a (by omega)) h3, CT_sm (fun _ _ => rfl) (e0.1 10) (e0.1 11) (h 10 (by omega)).2.1 ((h 43 (by omega)).2.2 0) (fun a ha => h a (by omega)) h4, CH_sm (fun _ _ => rfl) (fun a a1 a2 => h a (by omega)) h5, (e0.1 6).trans h6⟩
/-- the POLYS (and the rows of fill) changed -/
theorem IC_D2 {p : Int} {sh : SH} {S S' : SS} {F F' : ZF} {P : ZP} {V : ZV} {T : ZT} {H : ZH} {c : Int} (hW : PbW p sh S') (hL : PlW p sh S' P.2.2) (hS : Same D2 S S') (hF : ∀ i : Int, 0 ≤ i → i < 8 → pr S' i = F' i) (hI : IC p sh S F P V T H c) : IC p sh S' F' P V T H c := by
  obtain ⟨h1, h2, h3, h4, h5, h6⟩ := hI
  have h : ∀ a : Nat, ¬ D2 a → Eqa S S' a := fun a ha => Same_Eqa hS ha
  have n0 : ∀ a : Nat, (a < 2 ∨ (4 ≤ a ∧ a ≤ 12) ∨ (30 ≤ a ∧ a ≤ 32) ∨ (37 ≤ a ∧ a ≤ 47) ∨ 64 ≤ a) → ¬ D2 a := fun a ha => by unfold D2 D1; omega
  have e0 := h 0 (n0 0 (by omega))
  refine ⟨⟨hW, hF⟩, ?_, CV_sm (fun _ _ _ => rfl) (e0.1 5) (h 4 (n0 4 (by omega))).2.2 (fun a a1 _ => h a (n0 a (by omega))) h3, CT_sm (fun _ _ => rfl) (e0.1 10) (e0.1 11) (h 10 (n0 10 (by omega))).2.1 ((h 43 (n0 43 (by omega))).2.2 0) (fun a ha => h a (n0 a (by omega))) h4, CH_sm (fun _ _ => rfl) (fun a a1 a2 => h a (n0 a (by omega))) h5, (e0.1 6).trans h6⟩
  obtain ⟨-, e31, e32, a, b, c', x7, x8, x9, hP3, ra, rb, rc⟩ := h2
  have q := (h 30 (n0 30 (by omega))).2.2
  have hR : ∀ (a N : Nat), 37 ≤ a → a + 1 ≤ 42 → Row p sh S a N → Row p sh S' a N := fun a N a1 a2 r => Row_sm r rfl rfl (h a (n0 a (by omega))) (h (a + 1) (n0 (a + 1) (by omega)))
  have hQ := hP3
  obtain ⟨c1, c2, c3, -⟩ := hQ
  exact ⟨hL, (h 31 (n0 31 (by omega))).2.1.trans e31, (h 32 (n0 32 (by omega))).2.1.trans e32, a, b, c', (q 7).trans x7, (q 8).trans x8, (q 9).trans x9, hP3, hR a 64 (by omega) (by omega) ra, hR b 64 (by omega) (by omega) rb, hR c' 64 (by omega) (by omega) rc⟩
