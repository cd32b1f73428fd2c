/-! Grammar: part, readInto -/
def GpR (x : Nat) (S S' : SS) : Prop := (∀ a k : Nat, (a ≠ 43 ∨ k < 2) → (a ≠ x ∨ (k ≠ 1 ∧ k ≠ 3)) → S'.1 a k = S.1 a k) ∧ (∀ a : Nat, a ≠ x + 1 → a ≠ x + 2 → S'.2.1 a = S.2.1 a) ∧ S'.2.2 = S.2.2
theorem GpR_rf {x : Nat} {S : SS} : GpR x S S := ⟨fun _ _ _ _ => rfl, fun _ _ _ => rfl, rfl⟩
theorem GpR_tr {x : Nat} {S S' S'' : SS} (h : GpR x S S') (h' : GpR x S' S'') : GpR x S S'' := ⟨fun a k q q' => (h'.1 a k q q').trans (h.1 a k q q'), fun a q q' => (h'.2.1 a q q').trans (h.2.1 a q q'), h'.2.2.trans h.2.2⟩
theorem GaR_p {x : Nat} {S S' : SS} (h : GaR x S S') : GpR x S S' := ⟨fun a k q q' => h.1 a k q (by omega), fun a q _ => h.2.1 a q, h.2.2⟩
theorem GcX_p {sh : SH} {S S' : SS} {N : Int} {B : Int → Int} {x : Nat} (h : GpR x S S') (hX : GcX sh S N B x) (hb : 0 ≤ S'.1 x 1 ∧ S'.1 x 1 ≤ 160) (hp : 0 ≤ S'.1 x 3 ∧ S'.1 x 3 ≤ 3) (hs : ∀ i : Int, IsI (S'.2.1 (x + 1) i)) (he : ∀ i : Int, 0 ≤ S'.2.1 (x + 2) i ∧ S'.2.1 (x + 2) i ≤ 160) : GcX sh S' N B x := by
  obtain ⟨hTa, hTk, hB, h43, q0, q1, h44, hTx⟩ := hX
  obtain ⟨a5, a0, a2, a3, a6, a7, a8, aN, aNb, aby⟩ := hTa
  obtain ⟨T, t4, tT, ta, tb, tc⟩ := hTk
  obtain ⟨hx, h1, h2, h3, p0, p2, p4, hsz, hpa, htp, hen, hst, hsk⟩ := hTx
  refine ⟨⟨a5, by rw [h.2.2]; exact a0, by rw [h.2.2]; exact a2, by rw [h.2.2]; exact a3, a6, a7, a8, by rw [h.1 5 1 (by omega) (by omega)]; exact aN, aNb, by rw [h.2.1 6 (by omega) (by omega)]; exact aby⟩, ⟨T, by rw [h.1 5 4 (by omega) (by omega)]; exact t4, tT, by rw [h.2.1 7 (by omega) (by omega), h.2.1 8 (by omega) (by omega)]; exact ta, tb, tc⟩, hB, h43, by rw [h.2.2]; exact q0, by rw [h.2.2]; exact q1, h44, ?_⟩
  exact ⟨hx, h1, h2, h3, by rw [h.2.2]; exact p0, by rw [h.2.2]; exact p2, by rw [h.2.2]; exact p4, hb, hp, by rw [h.1 x 5 (by omega) (by omega)]; exact htp, he, hs, by rw [h.2.1 (x + 3) (by omega) (by omega)]; exact hsk⟩
theorem GpR_end {x : Nat} {S : SS} {i s v : Int} : GpR x S (setF (setA S (x + 2) i s) x 3 v) := ⟨fun a k _ q => setF_ne (by omega), fun a _ q => putA_ne q, rfl⟩
theorem GcX_end {sh : SH} {S : SS} {N : Int} {B : Int → Int} {x : Nat} (hX : GcX sh S N B x) (hlt : S.1 x 3 < 3) : GcX sh (setF (setA S (x + 2) (S.1 x 3) (S.1 x 1)) x 3 (S.1 x 3 + 1)) N B x := by
  have hTx := GcX_tx hX
  obtain ⟨hx, h1, h2, h3, p0, p2, p4, hsz, hpa, htp, hen, hst, hsk⟩ := hTx
  have eA : (setF (setA S (x + 2) (S.1 x 3) (S.1 x 1)) x 3 (S.1 x 3 + 1)).2.1 (x + 2) = iup (S.2.1 (x + 2)) (S.1 x 3) (S.1 x 1) := putA_at
  have eB : (setF (setA S (x + 2) (S.1 x 3) (S.1 x 1)) x 3 (S.1 x 3 + 1)).2.1 (x + 1) = S.2.1 (x + 1) := putA_ne (by omega)
  have eF : (setF (setA S (x + 2) (S.1 x 3) (S.1 x 1)) x 3 (S.1 x 3 + 1)).1 x 1 = S.1 x 1 := setF_ne (by omega)
  refine GcX_p GpR_end hX (by rw [eF]; exact hsz) (by rw [setF_at]; omega) (by rw [eB]; exact hst) (fun i => ?_)
  rw [eA]
  by_cases c : i = S.1 x 3
  · rw [c, iup_at]; exact hsz
  · rw [iup_ne c]; exact hen i
theorem c_X7_endF {g : GC} {sh : SH} {S : SS} {n : Nat} {N f : Int} {B : Int → Int} {x o : Nat} {Q : Option Value → GA → Nat → Prop} (hX : GcX sh S N B x) (hC : GcF S o f) (hq : ∀ S' : SS, GpR x S S' → GcX sh S' N B x → GcF S' o f → Q none (hp g sh S') n) : GCall g mX7_endPart 1 0 0 [gr g x] (hp g sh S) n Q := by
  have h44 := hX.2.2.2.2.2.2.1
  have eF : ∀ k : Nat, (setF (setA S (x + 2) (S.1 x 3) (S.1 x 1)) x 3 (S.1 x 3 + 1)).1 43 k = S.1 43 k := fun k => setF_ne (by omega)
  exact c_X7_endPart (GcX_tx hX) (fun z => hq _ GpR_end (GcX_end hX z) ⟨by rw [eF]; exact hC.1, by rw [eF]; exact hC.2.1, hC.2.2⟩) (fun _ => hq S GpR_rf hX hC)
theorem c_X7_endC {g : GC} {sh : SH} {S : SS} {n : Nat} {N : Int} {B : Int → Int} {x k o : Nat} {l : List Int} {Q : Option Value → GA → Nat → Prop} (hX : GcX sh S N B x) (hC : GcC S x k o l) (h3 : S.1 x 3 < 3) (hq : ∀ S' : SS, GpR x S S' → GcX sh S' N B x → GcC S' x k o l → S'.1 x 3 = S.1 x 3 + 1 → S'.2.1 (x + 2) = iup (S.2.1 (x + 2)) (S.1 x 3) l.length → Q none (hp g sh S') n) : GCall g mX7_endPart 1 0 0 [gr g x] (hp g sh S) n Q := by
  have h44 := hX.2.2.2.2.2.2.1
  have hC' := hC
  obtain ⟨c2, c3, c4, cl, cL⟩ := hC'
  have eF : ∀ k : Nat, (setF (setA S (x + 2) (S.1 x 3) (S.1 x 1)) x 3 (S.1 x 3 + 1)).1 43 k = S.1 43 k := fun k => setF_ne (by omega)
  have e1 : (setF (setA S (x + 2) (S.1 x 3) (S.1 x 1)) x 3 (S.1 x 3 + 1)).1 x 1 = S.1 x 1 := setF_ne (by omega)
  have eA : (setF (setA S (x + 2) (S.1 x 3) (S.1 x 1)) x 3 (S.1 x 3 + 1)).2.1 (x + 2) = iup (S.2.1 (x + 2)) (S.1 x 3) (S.1 x 1) := putA_at
  have eB : (setF (setA S (x + 2) (S.1 x 3) (S.1 x 1)) x 3 (S.1 x 3 + 1)).2.1 (x + 1) = S.2.1 (x + 1) := putA_ne (by omega)
  exact c_X7_endPart (GcX_tx hX) (fun z => hq _ GpR_end (GcX_end hX z) ⟨by rw [eF]; exact c2, by rw [eF]; exact c3, by rw [eF]; exact c4, by rw [e1]; exact cl, by rw [eB]; exact cL⟩ setF_at (by rw [eA, cl])) (fun z => absurd h3 z)
set_option maxRecDepth 100000 in
set_option maxHeartbeats 4000000 in
theorem c_X1_partF {g : GC} {sh : SH} {S : SS} {n : Nat} {N f : Int} {B : Int → Int} {x : Nat} {Q : Option Value → GA → Nat → Prop} {key : Int} (hX : GcX sh S N B x) (hC : GcF S 0 f) (hq : ∀ S' : SS, GpR x S S' → GcX sh S' N B x → GcF S' 0 f → Q none (hp g sh S') n) : GCall g mX1_part 45 0 0 [gr g 43, .int (iI key)] (hp g sh S) n Q := by
  have hXc := hX
  obtain ⟨-, -, -, h43, -, u1, -, ux, -⟩ := hXc
  refine GCall.of (by decide) (Nat.le_of_ble_eq_true rfl) (ls := [(0, _), (1, _)]) rfl ?_
  refine S_aload_n (pc := 0) dX1_part_0 rfl ?_
  refine G_iload_n (pc := 1) dX1_part_1 rfl ?_
  refine S_callV (pc := 2) (ci := 1) (d2 := 3) (mc2 := 0) (ms2 := 0) (As := [_]) dX1_part_2 kX1_need lkX1_41 (by assumption) rfl rfl rfl (Nat.le_of_ble_eq_true rfl) ⟨by decide, by decide⟩ (by decide) ?_
  refine c_X1_needF hX hC ?_
  show G _ _ _ _ _ _ _ _ _ _ _ _ _
  refine S_aload_n (pc := 5) dX1_part_5 rfl ?_
  refine S_callV (pc := 6) (ci := 1) (d2 := 9) (mc2 := 0) (ms2 := 0) (As := []) dX1_part_6 kX1_either lkX1_44 (by assumption) rfl rfl rfl (Nat.le_of_ble_eq_true rfl) ⟨by decide, by decide⟩ (by decide) ?_
  refine c_X1_eitherF hX hC (by decide) ?_
  show G _ _ _ _ _ _ _ _ _ _ _ _ _
  refine S_aload_n (pc := 9) dX1_part_9 rfl ?_
  refine G_bipush (pc := 10) dX1_part_10 rfl ?_
  refine S_callV (pc := 12) (ci := 1) (d2 := 3) (mc2 := 0) (ms2 := 0) (As := [_]) dX1_part_12 kX1_need lkX1_41 (by assumption) rfl rfl rfl (Nat.le_of_ble_eq_true rfl) ⟨by decide, by decide⟩ (by decide) ?_
  refine c_X1_needF hX hC ?_
  show G _ _ _ _ _ _ _ _ _ _ _ _ _
  refine S_aload_n (pc := 15) dX1_part_15 rfl ?_
  refine S_getR (pc := 16) dX1_part_16 fX1_12 (by assumption) rfl (by assumption) ?_
  refine S_callV (pc := 19) (ci := 7) (d2 := 1) (mc2 := 0) (ms2 := 0) (As := []) dX1_part_19 kX7_endPart lkX1_47 (by assumption) rfl rfl rfl (Nat.le_of_ble_eq_true rfl) ⟨by decide, by decide⟩ (by decide) ?_
  refine c_X7_endF hX hC (fun S1 r1 r2 r3 => ?_)
  · show G _ _ _ _ _ _ _ _ _ _ _ _ _
    refine G_vret (pc := 22) dX1_part_22 rfl (by decide) ?_
    exact hq S1 r1 r2 r3
set_option maxRecDepth 100000 in
set_option maxHeartbeats 4000000 in
theorem c_X1_partC {g : GC} {sh : SH} {S : SS} {n : Nat} {N : Int} {B : Int → Int} {x k : Nat} {l : List Int} {Q : Option Value → GA → Nat → Prop} {key : Int} (hX : GcX sh S N B x) (hC : GcC S x k 0 l) (hk : (k : Int) ≤ N) (hl : l.length ≤ k) (hkey : 260 ≤ key ∧ key ≤ 262) (h3 : S.1 x 3 < 3)
    (hF : ∀ (kf : Nat) (S' : SS), prt (tkk B) key k = .inl kf → GpR x S S' → GcX sh S' N B x → GcF S' 0 (tka N B kf) → Q none (hp g sh S') n)
    (hS : ∀ (k1 : Nat) (l1 : List Int) (S' : SS), prt (tkk B) key k = .inr (k1, l1) → GpR x S S' → GcX sh S' N B x → GcC S' x k1 0 (l ++ l1) → (k ≤ k1 ∧ (k1 : Int) ≤ N ∧ l1.length + k ≤ k1) → S'.1 x 3 = S.1 x 3 + 1 → S'.2.1 (x + 2) = iup (S.2.1 (x + 2)) (S.1 x 3) (l ++ l1).length → Q none (hp g sh S') n) :
    GCall g mX1_part 45 0 0 [gr g 43, .int (iI key)] (hp g sh S) n Q := by
  have hXc := hX
  obtain ⟨-, -, hB, h43, -, -, h44, hx, -⟩ := hXc
  have hN := hB.1
  refine GCall.of (by decide) (Nat.le_of_ble_eq_true rfl) (ls := [(0, _), (1, _)]) rfl ?_
  have K9F : ∀ (kf : Nat) (S1 : SS), prt (tkk B) key k = .inl kf → GaR x S S1 → GcX sh S1 N B x → GcF S1 0 (tka N B kf) → G g mX1_part 45 0 0 9 [(0, gr g 43), (1, .int (iI key))] [] (hp g sh S1) n 0 0 Q := by
    intro kf S1 e r1 r2 r3
    have r2c := r2
    obtain ⟨-, -, -, -, -, u1, -, -, -⟩ := r2c
    refine S_aload_n (pc := 9) dX1_part_9 rfl ?_
    refine G_bipush (pc := 10) dX1_part_10 rfl ?_
    refine S_callV (pc := 12) (ci := 1) (d2 := 3) (mc2 := 0) (ms2 := 0) (As := [_]) dX1_part_12 kX1_need lkX1_41 (by assumption) rfl rfl rfl (Nat.le_of_ble_eq_true rfl) ⟨by decide, by decide⟩ (by decide) ?_
    refine c_X1_needF r2 r3 ?_
    show G _ _ _ _ _ _ _ _ _ _ _ _ _
    refine S_aload_n (pc := 15) dX1_part_15 rfl ?_
    refine S_getR (pc := 16) dX1_part_16 fX1_12 (by assumption) rfl (by assumption) ?_
    refine S_callV (pc := 19) (ci := 7) (d2 := 1) (mc2 := 0) (ms2 := 0) (As := []) dX1_part_19 kX7_endPart lkX1_47 (by assumption) rfl rfl rfl (Nat.le_of_ble_eq_true rfl) ⟨by decide, by decide⟩ (by decide) ?_
    refine c_X7_endF r2 r3 (fun S2 p1 p2 p3 => ?_)
    · show G _ _ _ _ _ _ _ _ _ _ _ _ _
      refine G_vret (pc := 22) dX1_part_22 rfl (by decide) ?_
      exact hF kf S2 e (GpR_tr (GaR_p r1) p1) p2 p3
  have K15F : ∀ (kf : Nat) (S1 : SS), prt (tkk B) key k = .inl kf → GaR x S S1 → GcX sh S1 N B x → GcF S1 0 (tka N B kf) → G g mX1_part 45 0 0 15 [(0, gr g 43), (1, .int (iI key))] [] (hp g sh S1) n 0 0 Q := by
    intro kf S1 e r1 r2 r3
    have r2c := r2
    obtain ⟨-, -, -, -, -, u1, -, -, -⟩ := r2c
    refine S_aload_n (pc := 15) dX1_part_15 rfl ?_
    refine S_getR (pc := 16) dX1_part_16 fX1_12 (by assumption) rfl (by assumption) ?_
    refine S_callV (pc := 19) (ci := 7) (d2 := 1) (mc2 := 0) (ms2 := 0) (As := []) dX1_part_19 kX7_endPart lkX1_47 (by assumption) rfl rfl rfl (Nat.le_of_ble_eq_true rfl) ⟨by decide, by decide⟩ (by decide) ?_
    refine c_X7_endF r2 r3 (fun S2 p1 p2 p3 => ?_)
    · show G _ _ _ _ _ _ _ _ _ _ _ _ _
      refine G_vret (pc := 22) dX1_part_22 rfl (by decide) ?_
      exact hF kf S2 e (GpR_tr (GaR_p r1) p1) p2 p3
  have K15C : ∀ (k1 : Nat) (l1 : List Int) (S1 : SS), prt (tkk B) key k = .inr (k1, l1) → GaR x S S1 → GcX sh S1 N B x → GcC S1 x k1 0 (l ++ l1) → (k ≤ k1 ∧ (k1 : Int) ≤ N ∧ l1.length + k ≤ k1) → G g mX1_part 45 0 0 15 [(0, gr g 43), (1, .int (iI key))] [] (hp g sh S1) n 0 0 Q := by
    intro k1 l1 S1 e r1 r2 r3 rk
    have r2c := r2
    obtain ⟨-, -, -, -, -, u1, -, -, -⟩ := r2c
    have e3 : S1.1 x 3 = S.1 x 3 := r1.1 x 3 (by omega) (by omega)
    have ea : S1.2.1 (x + 2) = S.2.1 (x + 2) := r1.2.1 (x + 2) (by omega)
    refine S_aload_n (pc := 15) dX1_part_15 rfl ?_
    refine S_getR (pc := 16) dX1_part_16 fX1_12 (by assumption) rfl (by assumption) ?_
    refine S_callV (pc := 19) (ci := 7) (d2 := 1) (mc2 := 0) (ms2 := 0) (As := []) dX1_part_19 kX7_endPart lkX1_47 (by assumption) rfl rfl rfl (Nat.le_of_ble_eq_true rfl) ⟨by decide, by decide⟩ (by decide) ?_
    refine c_X7_endC r2 r3 (by omega) (fun S2 p1 p2 p3 p4 p5 => ?_)
    · show G _ _ _ _ _ _ _ _ _ _ _ _ _
      refine G_vret (pc := 22) dX1_part_22 rfl (by decide) ?_
      exact hS k1 l1 S2 e (GpR_tr (GaR_p r1) p1) p2 p3 rk (by rw [p4, e3]) (by rw [p5, ea, e3])
  by_cases c : tkk B k = key
  · have hkN := tk_in hB (k := k) (by omega)
    have hpr : prt (tkk B) key k = bnd (prs (tkk B) 2000 5 (k + 1) 0) (fun k1 l1 => if tkk B k1 = 59 then .inr (k1 + 1, l1) else .inl k1) := if_pos c
    have K9C : ∀ (k1 : Nat) (l1 : List Int) (S1 : SS), prs (tkk B) 2000 5 (k + 1) 0 = .inr (k1, l1) → GaR x S S1 → GcX sh S1 N B x → GcC S1 x k1 0 (l ++ l1) → (k + 1 ≤ k1 ∧ (k1 : Int) ≤ N ∧ l1.length + (k + 1) ≤ k1) → G g mX1_part 45 0 0 9 [(0, gr g 43), (1, .int (iI key))] [] (hp g sh S1) n 0 0 Q := by
      intro k1 l1 S1 e r1 r2 r3 rk
      by_cases d1 : tkk B k1 = 59
      · have hkN1 := tk_in hB (k := k1) (by omega)
        refine S_aload_n (pc := 9) dX1_part_9 rfl ?_
        refine G_bipush (pc := 10) dX1_part_10 rfl ?_
        refine S_callV (pc := 12) (ci := 1) (d2 := 3) (mc2 := 0) (ms2 := 0) (As := [_]) dX1_part_12 kX1_need lkX1_41 (by assumption) rfl rfl rfl (Nat.le_of_ble_eq_true rfl) ⟨by decide, by decide⟩ (by decide) ?_
        refine c_X1_needC r2 r3 (by omega) (by decide) (fun _ S2 p1 p2 p3 => ?_) (fun z => absurd d1 z)
        · show G _ _ _ _ _ _ _ _ _ _ _ _ _
          exact K15C (k1 + 1) l1 S2 (by rw [hpr, e]; exact if_pos d1) (GaR_tr r1 p1) p2 p3 (by omega)
      · skip
        refine S_aload_n (pc := 9) dX1_part_9 rfl ?_
        refine G_bipush (pc := 10) dX1_part_10 rfl ?_
        refine S_callV (pc := 12) (ci := 1) (d2 := 3) (mc2 := 0) (ms2 := 0) (As := [_]) dX1_part_12 kX1_need lkX1_41 (by assumption) rfl rfl rfl (Nat.le_of_ble_eq_true rfl) ⟨by decide, by decide⟩ (by decide) ?_
        refine c_X1_needC r2 r3 (by omega) (by decide) (fun z => absurd z d1) (fun _ S2 p1 p2 p3 => ?_)
        · show G _ _ _ _ _ _ _ _ _ _ _ _ _
          exact K15F k1 S2 (by rw [hpr, e]; exact if_neg d1) (GaR_tr r1 p1) p2 p3
    have hE := (ga_all (g := g) (sh := sh) (N := N) (B := B) (x := x) 2000).2.2.2.2.2.1
    refine S_aload_n (pc := 0) dX1_part_0 rfl ?_
    refine G_iload_n (pc := 1) dX1_part_1 rfl ?_
    refine S_callV (pc := 2) (ci := 1) (d2 := 3) (mc2 := 0) (ms2 := 0) (As := [_]) dX1_part_2 kX1_need lkX1_41 (by assumption) rfl rfl rfl (Nat.le_of_ble_eq_true rfl) ⟨by decide, by decide⟩ (by decide) ?_
    refine c_X1_needC hX hC (by omega) (by omega) (fun _ S1 r1 r2 r3 => ?_) (fun z => absurd c z)
    · show G _ _ _ _ _ _ _ _ _ _ _ _ _
      refine S_aload_n (pc := 5) dX1_part_5 rfl ?_
      refine S_callV (pc := 6) (ci := 1) (d2 := 44) (mc2 := 0) (ms2 := 0) (As := []) dX1_part_6 kX1_either lkX1_44 (by assumption) rfl rfl rfl (Nat.le_of_ble_eq_true rfl) ⟨by decide, by decide⟩ (by decide) ?_
      refine hE (k + 1) 0 l S1 n _ (by omega) (by omega) (by omega) r2 r3 (by omega) (fun kf S2 e q1 q2 q3 => ?_) (fun k1 l1 S2 e q1 q2 q3 qk => ?_)
      · show G _ _ _ _ _ _ _ _ _ _ _ _ _
        first
          | exact K9F kf S2 (by rw [hpr, e]; rfl) (GaR_tr r1 q1) q2 q3
          | exact K9C k1 l1 S2 e (GaR_tr r1 q1) q2 q3 qk
      · show G _ _ _ _ _ _ _ _ _ _ _ _ _
        first
          | exact K9F kf S2 (by rw [hpr, e]; rfl) (GaR_tr r1 q1) q2 q3
          | exact K9C k1 l1 S2 e (GaR_tr r1 q1) q2 q3 qk
  · have hpr : prt (tkk B) key k = .inl k := if_neg c
    refine S_aload_n (pc := 0) dX1_part_0 rfl ?_
    refine G_iload_n (pc := 1) dX1_part_1 rfl ?_
    refine S_callV (pc := 2) (ci := 1) (d2 := 3) (mc2 := 0) (ms2 := 0) (As := [_]) dX1_part_2 kX1_need lkX1_41 (by assumption) rfl rfl rfl (Nat.le_of_ble_eq_true rfl) ⟨by decide, by decide⟩ (by decide) ?_
    refine c_X1_needC hX hC (by omega) (by omega) (fun z => absurd z c) (fun _ S1 r1 r2 r3 => ?_)
    · show G _ _ _ _ _ _ _ _ _ _ _ _ _
      refine S_aload_n (pc := 5) dX1_part_5 rfl ?_
      refine S_callV (pc := 6) (ci := 1) (d2 := 9) (mc2 := 0) (ms2 := 0) (As := []) dX1_part_6 kX1_either lkX1_44 (by assumption) rfl rfl rfl (Nat.le_of_ble_eq_true rfl) ⟨by decide, by decide⟩ (by decide) ?_
      refine c_X1_eitherF r2 r3 (by decide) ?_
      show G _ _ _ _ _ _ _ _ _ _ _ _ _
      exact K9F k S1 hpr r1 r2 r3
def GxR (x : Nat) (S S' : SS) : Prop := (∀ a k : Nat, (a ≠ 43 ∨ k < 2) → (a ≠ x ∨ (k ≠ 1 ∧ k ≠ 3)) → S'.1 a k = S.1 a k) ∧ (∀ a : Nat, a ≠ x + 1 → a ≠ x + 2 → S'.2.1 a = S.2.1 a) ∧ ∀ (a : Nat) (j : Int), (a ≠ 43 ∨ j ≠ 1) → S'.2.2 a j = S.2.2 a j
theorem ptx_1 {tk : Nat → Int} {kf : Nat} (e : prt tk 260 0 = .inl kf) : ptx tk = .inl kf := by
  unfold ptx
  rw [e]
theorem ptx_2 {tk : Nat → Int} {k1 kf : Nat} {l0 : List Int} (p1 : prt tk 260 0 = .inr (k1, l0)) (e : prt tk 261 k1 = .inl kf) : ptx tk = .inl kf := by
  unfold ptx
  rw [p1]
  show (match prt tk 261 k1 with | .inl k => _ | .inr (k2, l2) => _) = _
  rw [e]
theorem ptx_3 {tk : Nat → Int} {k1 k2 kf : Nat} {l0 l1 : List Int} (p1 : prt tk 260 0 = .inr (k1, l0)) (p2 : prt tk 261 k1 = .inr (k2, l1)) (e : prt tk 262 k2 = .inl kf) : ptx tk = .inl kf := by
  unfold ptx
  rw [p1]
  show (match prt tk 261 k1 with | .inl k => _ | .inr (k2, l2) => _) = _
  rw [p2]
  show (match prt tk 262 k2 with | .inl k => _ | .inr (k3, l3) => _) = _
  rw [e]
theorem ptx_4 {tk : Nat → Int} {k1 k2 k3 : Nat} {l0 l1 l2 : List Int} (p1 : prt tk 260 0 = .inr (k1, l0)) (p2 : prt tk 261 k1 = .inr (k2, l1)) (p3 : prt tk 262 k2 = .inr (k3, l2)) : ptx tk = if tk k3 = 256 then .inr (l0, l1, l2) else .inl k3 := by
  unfold ptx
  rw [p1]
  show (match prt tk 261 k1 with | .inl k => _ | .inr (k2, l2) => _) = _
  rw [p2]
  show (match prt tk 262 k2 with | .inl k => _ | .inr (k3, l3) => _) = _
  rw [p3]
set_option maxRecDepth 100000 in
set_option maxHeartbeats 4000000 in
theorem c_X1_readInto {g : GC} {sh : SH} {S : SS} {n : Nat} {N : Int} {B : Int → Int} {x  : Nat}  {Q : Option Value → GA → Nat → Prop} (hTa : TaW sh S N) (hTk : TkW S N B) (hB : IsB N B) (h43 : sh 43 = some (.inl 1)) (q0 : S.2.2 43 0 = some 5) (h44 : 44 ≤ x) (hTx : TxW sh S x)
    (hF : ∀ (kf : Nat) (S' : SS), ptx (tkk B) = .inl kf → GxR x S S' → GcX sh S' N B x → Q (some (.int (iI (tka N B kf)))) (hp g sh S') n)
    (hS : ∀ (X : List Int × List Int × List Int) (S' : SS), ptx (tkk B) = .inr X → GxR x S S' → GcX sh S' N B x → TxP S' x X → Q (some (.int (iI (-1)))) (hp g sh S') n) :
    GCall g mX1_readInto 46 0 0 [gr g 43, gr g x] (hp g sh S) n Q := by
  have hN := hB.1
  have hX1 : GcX sh (setP S 43 1 (some x)) N B x := by
    obtain ⟨a5, a0, a2, a3, a6, a7, a8, aN, aNb, aby⟩ := hTa
    obtain ⟨hx, h1, h2, h3, p0, p2, p4, hsz, hpa, htp, hen, hst, hsk⟩ := hTx
    exact ⟨⟨a5, (setP_ne (Or.inl (by decide))).trans a0, (setP_ne (Or.inl (by decide))).trans a2, (setP_ne (Or.inl (by decide))).trans a3, a6, a7, a8, aN, aNb, aby⟩, hTk, hB, h43, (setP_ne (Or.inr (by decide))).trans q0, setP_at, h44, hx, h1, h2, h3, (setP_ne (Or.inl (by omega))).trans p0, (setP_ne (Or.inl (by omega))).trans p2, (setP_ne (Or.inl (by omega))).trans p4, hsz, hpa, htp, hen, hst, hsk⟩
  have hT1 := GcX_tx hX1
  have hx := hTx.1
  have G2 : GpR x (setP S 43 1 (some x)) (setF (setF (setP S 43 1 (some x)) x 1 0) x 3 0) := ⟨fun a k _ q => (setF_ne (by omega)).trans (setF_ne (by omega)), fun _ _ _ => rfl, rfl⟩
  have hX2 : GcX sh (setF (setF (setP S 43 1 (some x)) x 1 0) x 3 0) N B x := GcX_p G2 hX1 (by rw [setF_ne (by omega), setF_at]; omega) (by rw [setF_at]; omega) hT1.2.2.2.2.2.2.2.2.2.2.2.1 hT1.2.2.2.2.2.2.2.2.2.2.1
  have hX0 : GcX sh (setF (setF (setF (setF (setF (setP S 43 1 (some x)) x 1 0) x 3 0) 43 3 0) 43 4 (-1)) 43 2 0) N B x := GcX_43 (by decide) (GcX_43 (by decide) (GcX_43 (by decide) hX2))
  have hG0 : GxR x S (setF (setF (setF (setF (setF (setP S 43 1 (some x)) x 1 0) x 3 0) 43 3 0) 43 4 (-1)) 43 2 0) := ⟨fun a k q q' => (setF_ne (by omega)).trans ((setF_ne (by omega)).trans ((setF_ne (by omega)).trans ((setF_ne (by omega)).trans (setF_ne (by omega))))), fun _ _ _ => rfl, fun a j q => setP_ne q⟩
  have hC0 : GcC (setF (setF (setF (setF (setF (setP S 43 1 (some x)) x 1 0) x 3 0) 43 3 0) 43 4 (-1)) 43 2 0) x 0 0 [] := ⟨setF_at, by rw [setF_ne (by decide), setF_ne (by decide), setF_at]; rfl, by rw [setF_ne (by decide), setF_at], by rw [setF_ne (by omega), setF_ne (by omega), setF_ne (by omega), setF_ne (by omega), setF_at]; rfl, Lay_nil⟩
  have h30 : ((setF (setF (setF (setF (setF (setP S 43 1 (some x)) x 1 0) x 3 0) 43 3 0) 43 4 (-1)) 43 2 0)).1 x 3 = 0 := by rw [setF_ne (by omega), setF_ne (by omega), setF_ne (by omega), setF_at]
  generalize hS0 : (setF (setF (setF (setF (setF (setP S 43 1 (some x)) x 1 0) x 3 0) 43 3 0) 43 4 (-1)) 43 2 0) = S0 at hX0 hG0 hC0 h30
  have hGx : ∀ S1 : SS, GpR x S0 S1 → GxR x S S1 := fun S1 r => ⟨fun a k q q' => (r.1 a k q q').trans (hG0.1 a k q q'), fun a q q' => (r.2.1 a q q').trans (hG0.2.1 a q q'), fun a j q => by rw [r.2.2]; exact hG0.2.2 a j q⟩
  refine GCall.of (by decide) (Nat.le_of_ble_eq_true rfl) (ls := [(0, _), (1, _)]) rfl ?_
  have K55F : ∀ (kf : Nat) (S1 : SS), ptx (tkk B) = .inl kf → GpR x S0 S1 → GcX sh S1 N B x → GcF S1 0 (tka N B kf) → G g mX1_readInto 46 0 0 55 [(0, gr g 43), (1, gr g x)] [] (hp g sh S1) n 0 0 Q := by
    intro kf S1 e r1 r2 r3
    have e4 := r3.2.1
    have hq := hF kf S1 e (hGx S1 r1) r2
    refine S_aload_n (pc := 55) dX1_readInto_55 rfl ?_
    refine S_getI (pc := 56) dX1_readInto_56 fX1_18 (by assumption) rfl ?_
    rw [e4]
    refine G_iret (pc := 59) dX1_readInto_59 rfl (by decide) ?_
    exact hq
  have K48F : ∀ (kf : Nat) (S1 : SS), ptx (tkk B) = .inl kf → GpR x S0 S1 → GcX sh S1 N B x → GcF S1 0 (tka N B kf) → G g mX1_readInto 46 0 0 48 [(0, gr g 43), (1, gr g x)] [] (hp g sh S1) n 0 0 Q := by
    intro kf S1 e r1 r2 r3
    refine S_aload_n (pc := 48) dX1_readInto_48 rfl ?_
    refine G_sipush (pc := 49) dX1_readInto_49 rfl ?_
    refine S_callV (pc := 52) (ci := 1) (d2 := 3) (mc2 := 0) (ms2 := 0) (As := [_]) dX1_readInto_52 kX1_need lkX1_41 (by assumption) rfl rfl rfl (Nat.le_of_ble_eq_true rfl) ⟨by decide, by decide⟩ (by decide) ?_
    refine c_X1_needF r2 r3 ?_
    show G _ _ _ _ _ _ _ _ _ _ _ _ _
    exact K55F kf S1 e r1 r2 r3
  have K41F : ∀ (kf : Nat) (S1 : SS), ptx (tkk B) = .inl kf → GpR x S0 S1 → GcX sh S1 N B x → GcF S1 0 (tka N B kf) → G g mX1_readInto 46 0 0 41 [(0, gr g 43), (1, gr g x)] [] (hp g sh S1) n 0 0 Q := by
    intro kf S1 e r1 r2 r3
    refine S_aload_n (pc := 41) dX1_readInto_41 rfl ?_
    refine G_sipush (pc := 42) dX1_readInto_42 rfl ?_
    refine S_callV (pc := 45) (ci := 1) (d2 := 45) (mc2 := 0) (ms2 := 0) (As := [_]) dX1_readInto_45 kX1_part lkX1_37 (by assumption) rfl rfl rfl (Nat.le_of_ble_eq_true rfl) ⟨by decide, by decide⟩ (by decide) ?_
    refine c_X1_partF r2 r3 (fun S2 p1 p2 p3 => ?_)
    · show G _ _ _ _ _ _ _ _ _ _ _ _ _
      exact K48F kf S2 e (GpR_tr r1 p1) p2 p3
  have K34F : ∀ (kf : Nat) (S1 : SS), ptx (tkk B) = .inl kf → GpR x S0 S1 → GcX sh S1 N B x → GcF S1 0 (tka N B kf) → G g mX1_readInto 46 0 0 34 [(0, gr g 43), (1, gr g x)] [] (hp g sh S1) n 0 0 Q := by
    intro kf S1 e r1 r2 r3
    refine S_aload_n (pc := 34) dX1_readInto_34 rfl ?_
    refine G_sipush (pc := 35) dX1_readInto_35 rfl ?_
    refine S_callV (pc := 38) (ci := 1) (d2 := 45) (mc2 := 0) (ms2 := 0) (As := [_]) dX1_readInto_38 kX1_part lkX1_37 (by assumption) rfl rfl rfl (Nat.le_of_ble_eq_true rfl) ⟨by decide, by decide⟩ (by decide) ?_
    refine c_X1_partF r2 r3 (fun S2 p1 p2 p3 => ?_)
    · show G _ _ _ _ _ _ _ _ _ _ _ _ _
      exact K41F kf S2 e (GpR_tr r1 p1) p2 p3
  have K48C : ∀ (k1 k2 k3 : Nat) (l0 l1 l2 : List Int) (S1 : SS), prt (tkk B) 260 0 = .inr (k1, l0) → prt (tkk B) 261 k1 = .inr (k2, l1) → prt (tkk B) 262 k2 = .inr (k3, l2) → GpR x S0 S1 → GcX sh S1 N B x → GcC S1 x k3 0 (l0 ++ l1 ++ l2) → (k3 : Int) ≤ N → S1.1 x 3 = 3 → (S1.2.1 (x + 2) 0 = l0.length ∧ S1.2.1 (x + 2) 1 = (l0 ++ l1).length ∧ S1.2.1 (x + 2) 2 = (l0 ++ l1 ++ l2).length) → G g mX1_readInto 46 0 0 48 [(0, gr g 43), (1, gr g x)] [] (hp g sh S1) n 0 0 Q := by
    intro k1 k2 k3 l0 l1 l2 S1 p1 p2 p3 r1 r2 r3 rk r5 r6
    have hpx := ptx_4 p1 p2 p3
    by_cases c : tkk B k3 = 256
    · rw [if_pos c] at hpx
      have Kz : ∀ S2 : SS, GaR x S1 S2 → GcX sh S2 N B x → GcC S2 x (k3 + 1) 0 (l0 ++ l1 ++ l2) → G g mX1_readInto 46 0 0 55 [(0, gr g 43), (1, gr g x)] [] (hp g sh S2) n 0 0 Q := by
        intro S2 v1 v2 v3
        have e3 : S2.1 x 3 = S1.1 x 3 := v1.1 x 3 (by omega) (by omega)
        have ea : S2.2.1 (x + 2) = S1.2.1 (x + 2) := v1.2.1 (x + 2) (by omega)
        obtain ⟨c2, c3, c4, cl, cL⟩ := v3
        have hP : TxP S2 x (l0, l1, l2) := by
          refine ⟨?_, by rw [e3]; exact r5, by rw [ea]; exact r6.1, ?_, ?_, cL⟩
          · rw [cl, List.length_append, List.length_append]
          · rw [ea, r6.2.1, List.length_append]
          · rw [ea, r6.2.2, List.length_append, List.length_append]
        have hq := hS (l0, l1, l2) S2 hpx (hGx S2 (GpR_tr r1 (GaR_p v1))) v2 hP
        refine S_aload_n (pc := 55) dX1_readInto_55 rfl ?_
        refine S_getI (pc := 56) dX1_readInto_56 fX1_18 (by assumption) rfl ?_
        rw [c4]
        refine G_iret (pc := 59) dX1_readInto_59 rfl (by decide) ?_
        exact hq
      refine S_aload_n (pc := 48) dX1_readInto_48 rfl ?_
      refine G_sipush (pc := 49) dX1_readInto_49 rfl ?_
      refine S_callV (pc := 52) (ci := 1) (d2 := 3) (mc2 := 0) (ms2 := 0) (As := [_]) dX1_readInto_52 kX1_need lkX1_41 (by assumption) rfl rfl rfl (Nat.le_of_ble_eq_true rfl) ⟨by decide, by decide⟩ (by decide) ?_
      refine c_X1_needC r2 r3 (by omega) (by decide) (fun _ S2 v1 v2 v3 => ?_) (fun z => absurd c z)
      · show G _ _ _ _ _ _ _ _ _ _ _ _ _
        exact Kz S2 v1 v2 v3
    · rw [if_neg c] at hpx
      refine S_aload_n (pc := 48) dX1_readInto_48 rfl ?_
      refine G_sipush (pc := 49) dX1_readInto_49 rfl ?_
      refine S_callV (pc := 52) (ci := 1) (d2 := 3) (mc2 := 0) (ms2 := 0) (As := [_]) dX1_readInto_52 kX1_need lkX1_41 (by assumption) rfl rfl rfl (Nat.le_of_ble_eq_true rfl) ⟨by decide, by decide⟩ (by decide) ?_
      refine c_X1_needC r2 r3 (by omega) (by decide) (fun z => absurd z c) (fun _ S2 v1 v2 v3 => ?_)
      · show G _ _ _ _ _ _ _ _ _ _ _ _ _
        exact K55F k3 S2 hpx (GpR_tr r1 (GaR_p v1)) v2 v3
  have K41C : ∀ (k1 k2 : Nat) (l0 l1 : List Int) (S1 : SS), prt (tkk B) 260 0 = .inr (k1, l0) → prt (tkk B) 261 k1 = .inr (k2, l1) → GpR x S0 S1 → GcX sh S1 N B x → GcC S1 x k2 0 (l0 ++ l1) → ((k2 : Int) ≤ N ∧ (l0 ++ l1).length ≤ k2) → S1.1 x 3 = 2 → (S1.2.1 (x + 2) 0 = l0.length ∧ S1.2.1 (x + 2) 1 = (l0 ++ l1).length) → G g mX1_readInto 46 0 0 41 [(0, gr g 43), (1, gr g x)] [] (hp g sh S1) n 0 0 Q := by
    intro k1 k2 l0 l1 S1 p1 p2 r1 r2 r3 rk r5 r6
    refine S_aload_n (pc := 41) dX1_readInto_41 rfl ?_
    refine G_sipush (pc := 42) dX1_readInto_42 rfl ?_
    refine S_callV (pc := 45) (ci := 1) (d2 := 45) (mc2 := 0) (ms2 := 0) (As := [_]) dX1_readInto_45 kX1_part lkX1_37 (by assumption) rfl rfl rfl (Nat.le_of_ble_eq_true rfl) ⟨by decide, by decide⟩ (by decide) ?_
    refine c_X1_partC r2 r3 rk.1 rk.2 (by decide) (by omega) (fun kf S2 e v1 v2 v3 => ?_) (fun k3 l2 S2 e v1 v2 v3 vk v4 v5 => ?_)
    · show G _ _ _ _ _ _ _ _ _ _ _ _ _
      first
        | exact K48F kf S2 (ptx_3 p1 p2 e) (GpR_tr r1 v1) v2 v3
        | exact K48C k1 k2 k3 l0 l1 l2 S2 p1 p2 e (GpR_tr r1 v1) v2 v3 vk.2.1 (by omega) ⟨by rw [v5, r5, iup_ne (by decide)]; exact r6.1, by rw [v5, r5, iup_ne (by decide)]; exact r6.2, by rw [v5, r5, iup_at]⟩
    · show G _ _ _ _ _ _ _ _ _ _ _ _ _
      first
        | exact K48F kf S2 (ptx_3 p1 p2 e) (GpR_tr r1 v1) v2 v3
        | exact K48C k1 k2 k3 l0 l1 l2 S2 p1 p2 e (GpR_tr r1 v1) v2 v3 vk.2.1 (by omega) ⟨by rw [v5, r5, iup_ne (by decide)]; exact r6.1, by rw [v5, r5, iup_ne (by decide)]; exact r6.2, by rw [v5, r5, iup_at]⟩
  have K34C : ∀ (k1 : Nat) (l0 : List Int) (S1 : SS), prt (tkk B) 260 0 = .inr (k1, l0) → GpR x S0 S1 → GcX sh S1 N B x → GcC S1 x k1 0 l0 → ((k1 : Int) ≤ N ∧ l0.length ≤ k1) → S1.1 x 3 = 1 → S1.2.1 (x + 2) 0 = l0.length → G g mX1_readInto 46 0 0 34 [(0, gr g 43), (1, gr g x)] [] (hp g sh S1) n 0 0 Q := by
    intro k1 l0 S1 p1 r1 r2 r3 rk r5 r6
    refine S_aload_n (pc := 34) dX1_readInto_34 rfl ?_
    refine G_sipush (pc := 35) dX1_readInto_35 rfl ?_
    refine S_callV (pc := 38) (ci := 1) (d2 := 45) (mc2 := 0) (ms2 := 0) (As := [_]) dX1_readInto_38 kX1_part lkX1_37 (by assumption) rfl rfl rfl (Nat.le_of_ble_eq_true rfl) ⟨by decide, by decide⟩ (by decide) ?_
    refine c_X1_partC r2 r3 rk.1 rk.2 (by decide) (by omega) (fun kf S2 e v1 v2 v3 => ?_) (fun k2 l1 S2 e v1 v2 v3 vk v4 v5 => ?_)
    · show G _ _ _ _ _ _ _ _ _ _ _ _ _
      first
        | exact K41F kf S2 (ptx_2 p1 e) (GpR_tr r1 v1) v2 v3
        | exact K41C k1 k2 l0 l1 S2 p1 e (GpR_tr r1 v1) v2 v3 ⟨vk.2.1, by rw [len1]; omega⟩ (by omega) ⟨by rw [v5, r5, iup_ne (by decide)]; exact r6, by rw [v5, r5, iup_at]⟩
    · show G _ _ _ _ _ _ _ _ _ _ _ _ _
      first
        | exact K41F kf S2 (ptx_2 p1 e) (GpR_tr r1 v1) v2 v3
        | exact K41C k1 k2 l0 l1 S2 p1 e (GpR_tr r1 v1) v2 v3 ⟨vk.2.1, by rw [len1]; omega⟩ (by omega) ⟨by rw [v5, r5, iup_ne (by decide)]; exact r6, by rw [v5, r5, iup_at]⟩
  refine S_aload_n (pc := 0) dX1_readInto_0 rfl ?_
  refine S_aload_n (pc := 1) dX1_readInto_1 rfl ?_
  refine S_putR (pc := 2) dX1_readInto_2 fX1_12 (by assumption) rfl ⟨rfl, rfl⟩ ?_
  refine S_aload_n (pc := 5) dX1_readInto_5 rfl ?_
  refine S_getR (pc := 6) dX1_readInto_6 fX1_12 (by assumption) rfl setP_at ?_
  refine S_callV (pc := 9) (ci := 7) (d2 := 1) (mc2 := 0) (ms2 := 0) (As := []) dX1_readInto_9 kX7_begin lkX1_26 (by assumption) rfl rfl rfl (Nat.le_of_ble_eq_true rfl) ⟨by decide, by decide⟩ (by decide) ?_
  refine c_X7_begin hT1 ?_
  show G _ _ _ _ _ _ _ _ _ _ _ _ _
  refine S_aload_n (pc := 12) dX1_readInto_12 rfl ?_
  refine G_iconst (pc := 13) dX1_readInto_13 ?_
  refine S_putI (pc := 14) dX1_readInto_14 fX1_29 (by assumption) rfl ⟨rfl, rfl⟩ ?_
  refine S_aload_n (pc := 17) dX1_readInto_17 rfl ?_
  refine G_iconst (pc := 18) dX1_readInto_18 ?_
  refine S_putI (pc := 19) dX1_readInto_19 fX1_18 (by assumption) rfl ⟨rfl, rfl⟩ ?_
  refine S_aload_n (pc := 22) dX1_readInto_22 rfl ?_
  refine G_iconst (pc := 23) dX1_readInto_23 ?_
  refine S_putI (pc := 24) dX1_readInto_24 fX1_32 (by assumption) rfl ⟨rfl, rfl⟩ ?_
  rw [show (setF (setF (setF (setF (setF (setP S 43 ((1 : Nat) : Int) (some x)) x 1 0) x 3 0) 43 3 0) 43 4 (-1)) 43 2 0) = S0 from hS0]
  refine S_aload_n (pc := 27) dX1_readInto_27 rfl ?_
  refine G_sipush (pc := 28) dX1_readInto_28 rfl ?_
  refine S_callV (pc := 31) (ci := 1) (d2 := 45) (mc2 := 0) (ms2 := 0) (As := [_]) dX1_readInto_31 kX1_part lkX1_37 (by assumption) rfl rfl rfl (Nat.le_of_ble_eq_true rfl) ⟨by decide, by decide⟩ (by decide) ?_
  refine c_X1_partC hX0 hC0 (by omega) (Nat.le_refl _) (by decide) (by omega) (fun kf S2 e v1 v2 v3 => ?_) (fun k1 l0 S2 e v1 v2 v3 vk v4 v5 => ?_)
  · show G _ _ _ _ _ _ _ _ _ _ _ _ _
    first
      | exact K34F kf S2 (ptx_1 e) v1 v2 v3
      | exact K34C k1 l0 S2 e v1 v2 v3 ⟨vk.2.1, by omega⟩ (by omega) (by rw [v5, h30, iup_at]; rfl)
  · show G _ _ _ _ _ _ _ _ _ _ _ _ _
    first
      | exact K34F kf S2 (ptx_1 e) v1 v2 v3
      | exact K34C k1 l0 S2 e v1 v2 v3 ⟨vk.2.1, by omega⟩ (by omega) (by rw [v5, h30, iup_at]; rfl)
