/-! Grammar -/
def GcX (sh : SH) (S : SS) (N : Int) (B : Int → Int) (x : Nat) : Prop := TaW sh S N ∧ TkW S N B ∧ IsB N B ∧ sh 43 = some (.inl 1) ∧ S.2.2 43 0 = some 5 ∧ S.2.2 43 1 = some x ∧ 44 ≤ x ∧ TxW sh S x
/-- token k stands, o are open, the steps l are laid -/
def GcC (S : SS) (x k o : Nat) (l : List Int) : Prop := S.1 43 2 = k ∧ S.1 43 3 = o ∧ S.1 43 4 = -1 ∧ S.1 x 1 = l.length ∧ Lay (S.2.1 (x + 1)) l
def GcF (S : SS) (o : Nat) (f : Int) : Prop := S.1 43 3 = o ∧ S.1 43 4 = f ∧ 0 ≤ f ∧ f ≤ 160
def GaR (x : Nat) (S S' : SS) : Prop := (∀ a k : Nat, (a ≠ 43 ∨ k < 2) → (a ≠ x ∨ k ≠ 1) → S'.1 a k = S.1 a k) ∧ (∀ a : Nat, a ≠ x + 1 → S'.2.1 a = S.2.1 a) ∧ S'.2.2 = S.2.2
theorem GaR_rf {x : Nat} {S : SS} : GaR x S S := ⟨fun _ _ _ _ => rfl, fun _ _ => rfl, rfl⟩
theorem GaR_tr {x : Nat} {S S' S'' : SS} (h : GaR x S S') (h' : GaR x S' S'') : GaR x S S'' := ⟨fun a k q q' => (h'.1 a k q q').trans (h.1 a k q q'), fun a q => (h'.2.1 a q).trans (h.2.1 a q), h'.2.2.trans h.2.2⟩
theorem GaR_43 {x j : Nat} {S : SS} {v : Int} (hj : 2 ≤ j) : GaR x S (setF S 43 j v) := ⟨fun a k q _ => setF_ne (by omega), fun _ _ => rfl, rfl⟩
theorem GaR_add {x : Nat} {S : SS} {i s v : Int} : GaR x S (setF (setA S (x + 1) i s) x 1 v) := ⟨fun a k _ q => setF_ne q, fun a q => putA_ne q, rfl⟩
theorem GcX_R {sh : SH} {S S' : SS} {N : Int} {B : Int → Int} {x : Nat} (h : GaR x S S') (hX : GcX sh S N B x) (hb : 0 ≤ S'.1 x 1 ∧ S'.1 x 1 ≤ 160) (hs : ∀ i : Int, IsI (S'.2.1 (x + 1) i)) : GcX sh S' N B x := by
  obtain ⟨hTa, hTk, hB, h43, q0, q1, h44, hTx⟩ := hX
  obtain ⟨a5, a0, a2, a3, a6, a7, a8, aN, aNb, aby⟩ := hTa
  obtain ⟨T, t4, tT, ta, tb, tc⟩ := hTk
  obtain ⟨hx, h1, h2, h3, p0, p2, p4, hsz, hpa, htp, hen, hst, hsk⟩ := hTx
  refine ⟨⟨a5, by rw [h.2.2]; exact a0, by rw [h.2.2]; exact a2, by rw [h.2.2]; exact a3, a6, a7, a8, by rw [h.1 5 1 (by omega) (by omega)]; exact aN, aNb, by rw [h.2.1 6 (by omega)]; exact aby⟩, ⟨T, by rw [h.1 5 4 (by omega) (by omega)]; exact t4, tT, by rw [h.2.1 7 (by omega), h.2.1 8 (by omega)]; exact ta, tb, tc⟩, hB, h43, by rw [h.2.2]; exact q0, by rw [h.2.2]; exact q1, h44, ?_⟩
  exact ⟨hx, h1, h2, h3, by rw [h.2.2]; exact p0, by rw [h.2.2]; exact p2, by rw [h.2.2]; exact p4, hb, by rw [h.1 x 3 (by omega) (by omega)]; exact hpa, by rw [h.1 x 5 (by omega) (by omega)]; exact htp, by rw [h.2.1 (x + 2) (by omega)]; exact hen, hs, by rw [h.2.1 (x + 3) (by omega)]; exact hsk⟩
theorem GcX_tx {sh : SH} {S : SS} {N : Int} {B : Int → Int} {x : Nat} (hX : GcX sh S N B x) : TxW sh S x := hX.2.2.2.2.2.2.2
theorem GcX_43 {sh : SH} {S : SS} {N v : Int} {B : Int → Int} {x j : Nat} (hj : 2 ≤ j) (hX : GcX sh S N B x) : GcX sh (setF S 43 j v) N B x := by
  have hX' := hX
  obtain ⟨hTa, hTk, hB, h43, q0, q1, h44, hTx⟩ := hX'
  obtain ⟨hx, h1, h2, h3, p0, p2, p4, hsz, hpa, htp, hen, hst, hsk⟩ := hTx
  exact GcX_R (GaR_43 hj) hX (by rw [setF_ne (by omega)]; exact hsz) hst
theorem GcX_add {sh : SH} {S : SS} {N s : Int} {B : Int → Int} {x : Nat} (hX : GcX sh S N B x) (hs : IsI s) (hlt : S.1 x 1 < 160) : GcX sh (setF (setA S (x + 1) (S.1 x 1) s) x 1 (S.1 x 1 + 1)) N B x := by
  have hX' := hX
  obtain ⟨hTa, hTk, hB, h43, q0, q1, h44, hTx⟩ := hX'
  obtain ⟨hx, h1, h2, h3, p0, p2, p4, hsz, hpa, htp, hen, hst, hsk⟩ := hTx
  have eA : (setF (setA S (x + 1) (S.1 x 1) s) x 1 (S.1 x 1 + 1)).2.1 (x + 1) = iup (S.2.1 (x + 1)) (S.1 x 1) s := putA_at
  refine GcX_R GaR_add hX (by rw [setF_at]; omega) (fun i => ?_)
  rw [eA]
  by_cases c : i = S.1 x 1
  · rw [c, iup_at]; exact hs
  · rw [iup_ne c]; exact hst i
theorem GcC_cast {S : SS} {x k o : Nat} {l l' : List Int} (h : GcC S x k o l) (e : l = l') : GcC S x k o l' := e ▸ h
theorem GcC_n {S : SS} {x k o : Nat} {l : List Int} (h44 : 44 ≤ x) (h : GcC S x k o l) : GcC (setF S 43 2 (S.1 43 2 + 1)) x (k + 1) o l := by
  obtain ⟨c2, c3, c4, cl, cL⟩ := h
  exact ⟨by rw [setF_at]; omega, by rw [setF_ne (by decide)]; exact c3, by rw [setF_ne (by decide)]; exact c4, by rw [setF_ne (by omega)]; exact cl, cL⟩
theorem GcC_o {S : SS} {x k o o' : Nat} {v : Int} {l : List Int} (h44 : 44 ≤ x) (h : GcC S x k o l) (hv : v = o') : GcC (setF S 43 3 v) x k o' l := by
  obtain ⟨c2, c3, c4, cl, cL⟩ := h
  exact ⟨by rw [setF_ne (by decide)]; exact c2, by rw [setF_at]; exact hv, by rw [setF_ne (by decide)]; exact c4, by rw [setF_ne (by omega)]; exact cl, cL⟩
theorem GcF_o {S : SS} {o o' : Nat} {v f : Int} (h : GcF S o f) (hv : v = o') : GcF (setF S 43 3 v) o' f := ⟨by rw [setF_at]; exact hv, by rw [setF_ne (by decide)]; exact h.2.1, h.2.2⟩
theorem GcC_add {S : SS} {x k o : Nat} {s : Int} {l : List Int} (h44 : 44 ≤ x) (h : GcC S x k o l) : GcC (setF (setA S (x + 1) (S.1 x 1) s) x 1 (S.1 x 1 + 1)) x k o (l ++ [s]) := by
  obtain ⟨c2, c3, c4, cl, cL⟩ := h
  have eA : (setF (setA S (x + 1) (S.1 x 1) s) x 1 (S.1 x 1 + 1)).2.1 (x + 1) = iup (S.2.1 (x + 1)) (S.1 x 1) s := putA_at
  have eF : ∀ k : Nat, (setF (setA S (x + 1) (S.1 x 1) s) x 1 (S.1 x 1 + 1)).1 43 k = S.1 43 k := fun k => setF_ne (by omega)
  exact ⟨by rw [eF]; exact c2, by rw [eF]; exact c3, by rw [eF]; exact c4, by rw [setF_at, List.length_append, List.length_cons, List.length_nil]; omega, by rw [eA, cl]; exact Lay_app cL⟩
theorem GcF_add {S : SS} {x o : Nat} {i s v f : Int} (h44 : 44 ≤ x) (h : GcF S o f) : GcF (setF (setA S (x + 1) i s) x 1 v) o f := by
  have eF : ∀ k : Nat, (setF (setA S (x + 1) i s) x 1 v).1 43 k = S.1 43 k := fun k => setF_ne (by omega)
  exact ⟨by rw [eF]; exact h.1, by rw [eF]; exact h.2.1, h.2.2⟩
theorem tka_bd {N : Int} {B : Int → Int} (hB : IsB N B) (k : Nat) : 0 ≤ tka N B k ∧ tka N B k ≤ N := by
  have h1 := tk1_bd hB k
  have h2 := hB.1
  have h3 := tps_bd hB k
  unfold tka
  split <;> omega
theorem c_X7_addC {g : GC} {sh : SH} {S : SS} {n : Nat} {N : Int} {B : Int → Int} {x k o : Nat} {l : List Int} {s : Int} {Q : Option Value → GA → Nat → Prop} (hX : GcX sh S N B x) (hC : GcC S x k o l) (hl : l.length < 160) (hs : IsI s) (hq : ∀ S' : SS, GaR x S S' → GcX sh S' N B x → GcC S' x k o (l ++ [s]) → Q none (hp g sh S') n) : GCall g mX7_add 1 0 0 [gr g x, .int (iI s)] (hp g sh S) n Q := by
  have h44 := hX.2.2.2.2.2.2.1
  have cl := hC.2.2.2.1
  exact c_X7_add (GcX_tx hX) (fun z => hq _ GaR_add (GcX_add hX hs z) (GcC_add h44 hC)) (fun z => absurd (by omega) z)
theorem c_X7_addNameC {g : GC} {sh : SH} {S : SS} {n : Nat} {N : Int} {B : Int → Int} {x k o : Nat} {l : List Int} {s : Int} {Q : Option Value → GA → Nat → Prop} (hX : GcX sh S N B x) (hC : GcC S x k o l) (hl : l.length < 160) (hs : IsI (-1 - s)) (hq : ∀ S' : SS, GaR x S S' → GcX sh S' N B x → GcC S' x k o (l ++ [-1 - s]) → Q none (hp g sh S') n) : GCall g mX7_addName 2 0 0 [gr g x, .int (iI s)] (hp g sh S) n Q := by
  have h44 := hX.2.2.2.2.2.2.1
  have cl := hC.2.2.2.1
  exact c_X7_addName (GcX_tx hX) (fun z => hq _ GaR_add (GcX_add hX hs z) (GcC_add h44 hC)) (fun z => absurd (by omega) z)
theorem c_X7_addF {g : GC} {sh : SH} {S : SS} {n : Nat} {N f : Int} {B : Int → Int} {x o : Nat} {s : Int} {Q : Option Value → GA → Nat → Prop} (hX : GcX sh S N B x) (hC : GcF S o f) (hs : IsI s) (hq : ∀ S' : SS, GaR x S S' → GcX sh S' N B x → GcF S' o f → Q none (hp g sh S') n) : GCall g mX7_add 1 0 0 [gr g x, .int (iI s)] (hp g sh S) n Q := by
  have h44 := hX.2.2.2.2.2.2.1
  exact c_X7_add (GcX_tx hX) (fun z => hq _ GaR_add (GcX_add hX hs z) (GcF_add h44 hC)) (fun _ => hq S GaR_rf hX hC)
set_option maxRecDepth 100000 in
set_option maxHeartbeats 4000000 in
theorem c_X1_standsC {g : GC} {sh : SH} {S : SS} {n : Nat} {N : Int} {B : Int → Int} {x k o : Nat} {l : List Int} {Q : Option Value → GA → Nat → Prop} {tt : Int} (hX : GcX sh S N B x) (hC : GcC S x k o l) (hk : k ≤ 1000) (ht : 0 ≤ tt ∧ tt ≤ 1000) (h1 : tkk B k = tt → Q (some (.int (iI 1))) (hp g sh S) n) (h0 : tkk B k ≠ tt → Q (some (.int (iI 0))) (hp g sh S) n) : GCall g mX1_stands 2 0 0 [gr g 43, .int (iI tt)] (hp g sh S) n Q := by
  obtain ⟨hTa, hTk, hB, h43, q0, q1, h44, hTx⟩ := hX
  have h5 := hTa.1
  have hx := hTx.1
  obtain ⟨c2, c3, c4, cl, cL⟩ := hC
  have hr := tkk_rng hB k
  refine GCall.of (by decide) (Nat.le_of_ble_eq_true rfl) (ls := [(0, _), (1, _)]) rfl ?_
  refine S_aload_n (pc := 0) dX1_stands_0 rfl ?_
  refine S_getI (pc := 1) dX1_stands_1 fX1_18 (by assumption) rfl ?_
  rw [c4]
  refine G_iconst (pc := 4) dX1_stands_4 ?_
  refine G_icmp_ne_f (pc := 5) 27 dX1_stands_5 rfl (by omega) (by omega) ?_
  refine S_aload_n (pc := 8) dX1_stands_8 rfl ?_
  refine S_getR (pc := 9) dX1_stands_9 fX1_22 (by assumption) rfl (by assumption) ?_
  refine S_aload_n (pc := 12) dX1_stands_12 rfl ?_
  refine S_getI (pc := 13) dX1_stands_13 fX1_32 (by assumption) rfl ?_
  rw [c2]
  refine S_callV (pc := 16) (ci := 6) (d2 := 1) (mc2 := 0) (ms2 := 0) (As := [_]) dX1_stands_16 kX6_token lkX1_50 (by assumption) rfl rfl rfl (Nat.le_of_ble_eq_true rfl) ⟨by decide, by decide⟩ (by decide) ?_
  refine c_X6_token hTa hTk hk ?_
  show G _ _ _ _ _ _ _ _ _ _ _ _ _
  refine G_iload_n (pc := 19) dX1_stands_19 rfl ?_
  refine G_icmp_ne (pc := 20) 27 dX1_stands_20 rfl (by omega) (fun c20 => ?_) (fun c20 => ?_)
  · skip
    refine G_iconst (pc := 27) dX1_stands_27 ?_
    refine G_zret (pc := 28) dX1_stands_28 rfl nar_z0 (by decide) ?_
    first | exact h1 (by omega) | exact h0 (by omega)
  · skip
    refine G_iconst (pc := 23) dX1_stands_23 ?_
    refine G_goto (pc := 24) 28 dX1_stands_24 rfl ?_
    refine G_zret (pc := 28) dX1_stands_28 rfl nar_z1 (by decide) ?_
    first | exact h1 (by omega) | exact h0 (by omega)
set_option maxRecDepth 100000 in
set_option maxHeartbeats 4000000 in
theorem c_X1_standsF {g : GC} {sh : SH} {S : SS} {n : Nat} {N f : Int} {B : Int → Int} {x o : Nat} {Q : Option Value → GA → Nat → Prop} {tt : Int} (hX : GcX sh S N B x) (hC : GcF S o f) (h0 : Q (some (.int (iI 0))) (hp g sh S) n) : GCall g mX1_stands 2 0 0 [gr g 43, .int (iI tt)] (hp g sh S) n Q := by
  obtain ⟨hTa, hTk, hB, h43, q0, q1, h44, hTx⟩ := hX
  have h5 := hTa.1
  have hx := hTx.1
  obtain ⟨f3, f4, fb⟩ := hC
  refine GCall.of (by decide) (Nat.le_of_ble_eq_true rfl) (ls := [(0, _), (1, _)]) rfl ?_
  refine S_aload_n (pc := 0) dX1_stands_0 rfl ?_
  refine S_getI (pc := 1) dX1_stands_1 fX1_18 (by assumption) rfl ?_
  rw [f4]
  refine G_iconst (pc := 4) dX1_stands_4 ?_
  refine G_icmp_ne_t (pc := 5) 27 dX1_stands_5 rfl (by omega) (by omega) ?_
  refine G_iconst (pc := 27) dX1_stands_27 ?_
  refine G_zret (pc := 28) dX1_stands_28 rfl nar_z0 (by decide) ?_
  exact h0
set_option maxRecDepth 100000 in
set_option maxHeartbeats 4000000 in
theorem c_X1_tookC {g : GC} {sh : SH} {S : SS} {n : Nat} {N : Int} {B : Int → Int} {x k o : Nat} {l : List Int} {Q : Option Value → GA → Nat → Prop} {tt : Int} (hX : GcX sh S N B x) (hC : GcC S x k o l) (hk : k ≤ 1000) (ht : 0 ≤ tt ∧ tt ≤ 1000) (h1 : tkk B k = tt → ∀ S' : SS, GaR x S S' → GcX sh S' N B x → GcC S' x (k + 1) o l → Q (some (.int (iI 1))) (hp g sh S') n) (h0 : tkk B k ≠ tt → Q (some (.int (iI 0))) (hp g sh S) n) : GCall g mX1_took 3 0 0 [gr g 43, .int (iI tt)] (hp g sh S) n Q := by
  have hX' := hX
  have hC' := hC
  obtain ⟨hTa, hTk, hB, h43, q0, q1, h44, hTx⟩ := hX'
  have h5 := hTa.1
  have hx := hTx.1
  obtain ⟨c2, c3, c4, cl, cL⟩ := hC'
  refine GCall.of (by decide) (Nat.le_of_ble_eq_true rfl) (ls := [(0, _), (1, _)]) rfl ?_
  refine S_aload_n (pc := 0) dX1_took_0 rfl ?_
  refine G_iload_n (pc := 1) dX1_took_1 rfl ?_
  refine S_callV (pc := 2) (ci := 1) (d2 := 2) (mc2 := 0) (ms2 := 0) (As := [_]) dX1_took_2 kX1_stands lkX1_54 (by assumption) rfl rfl rfl (Nat.le_of_ble_eq_true rfl) ⟨by decide, by decide⟩ (by decide) ?_
  refine c_X1_standsC hX hC hk ht (fun w2 => ?_) (fun w2 => ?_)
  · show G _ _ _ _ _ _ _ _ _ _ _ _ _
    refine G_if_ne_t (pc := 5) 10 dX1_took_5 rfl (by decide) (by decide) ?_
    refine S_aload_n (pc := 10) dX1_took_10 rfl ?_
    refine G_dup (pc := 11) dX1_took_11 rfl ?_
    refine S_getI (pc := 12) dX1_took_12 fX1_32 (by assumption) rfl ?_
    refine G_iconst (pc := 15) dX1_took_15 ?_
    refine G_iadd (pc := 16) dX1_took_16 ?_
    refine S_putI (pc := 17) dX1_took_17 fX1_32 (by assumption) rfl ⟨rfl, rfl⟩ ?_
    refine G_iconst (pc := 20) dX1_took_20 ?_
    refine G_zret (pc := 21) dX1_took_21 rfl nar_z1 (by decide) ?_
    first | exact h0 w2 | exact h1 w2 _ (GaR_43 (by decide)) (GcX_43 (by decide) hX) (GcC_n h44 hC)
  · show G _ _ _ _ _ _ _ _ _ _ _ _ _
    refine G_if_ne_f (pc := 5) 10 dX1_took_5 rfl (by decide) (by decide) ?_
    refine G_iconst (pc := 8) dX1_took_8 ?_
    refine G_zret (pc := 9) dX1_took_9 rfl nar_z0 (by decide) ?_
    first | exact h0 w2 | exact h1 w2 _ (GaR_43 (by decide)) (GcX_43 (by decide) hX) (GcC_n h44 hC)
set_option maxRecDepth 100000 in
set_option maxHeartbeats 4000000 in
theorem c_X1_tookF {g : GC} {sh : SH} {S : SS} {n : Nat} {N f : Int} {B : Int → Int} {x o : Nat} {Q : Option Value → GA → Nat → Prop} {tt : Int} (hX : GcX sh S N B x) (hC : GcF S o f) (h0 : Q (some (.int (iI 0))) (hp g sh S) n) : GCall g mX1_took 3 0 0 [gr g 43, .int (iI tt)] (hp g sh S) n Q := by
  have h43 := hX.2.2.2.1
  refine GCall.of (by decide) (Nat.le_of_ble_eq_true rfl) (ls := [(0, _), (1, _)]) rfl ?_
  refine S_aload_n (pc := 0) dX1_took_0 rfl ?_
  refine G_iload_n (pc := 1) dX1_took_1 rfl ?_
  refine S_callV (pc := 2) (ci := 1) (d2 := 2) (mc2 := 0) (ms2 := 0) (As := [_]) dX1_took_2 kX1_stands lkX1_54 (by assumption) rfl rfl rfl (Nat.le_of_ble_eq_true rfl) ⟨by decide, by decide⟩ (by decide) ?_
  refine c_X1_standsF hX hC ?_
  · show G _ _ _ _ _ _ _ _ _ _ _ _ _
    refine G_if_ne_f (pc := 5) 10 dX1_took_5 rfl (by decide) (by decide) ?_
    refine G_iconst (pc := 8) dX1_took_8 ?_
    refine G_zret (pc := 9) dX1_took_9 rfl nar_z0 (by decide) ?_
    exact h0
set_option maxRecDepth 100000 in
set_option maxHeartbeats 4000000 in
theorem c_X1_failC {g : GC} {sh : SH} {S : SS} {n : Nat} {N : Int} {B : Int → Int} {x k o : Nat} {l : List Int} {Q : Option Value → GA → Nat → Prop} (hX : GcX sh S N B x) (hC : GcC S x k o l) (hk : k ≤ 1000) (hq : ∀ S' : SS, GaR x S S' → GcX sh S' N B x → GcF S' o (tka N B k) → Q none (hp g sh S') n) : GCall g mX1_fail 2 0 0 [gr g 43] (hp g sh S) n Q := by
  have hX' := hX
  have hC' := hC
  obtain ⟨hTa, hTk, hB, h43, q0, q1, h44, hTx⟩ := hX'
  have h5 := hTa.1
  have hx := hTx.1
  obtain ⟨c2, c3, c4, cl, cL⟩ := hC'
  have hb := tka_bd hB k
  have hN := hB.1
  refine GCall.of (by decide) (Nat.le_of_ble_eq_true rfl) (ls := [(0, _)]) rfl ?_
  refine S_aload_n (pc := 0) dX1_fail_0 rfl ?_
  refine S_getI (pc := 1) dX1_fail_1 fX1_18 (by assumption) rfl ?_
  rw [c4]
  refine G_iconst (pc := 4) dX1_fail_4 ?_
  refine G_icmp_ne_f (pc := 5) 23 dX1_fail_5 rfl (by omega) (by omega) ?_
  refine S_aload_n (pc := 8) dX1_fail_8 rfl ?_
  refine S_aload_n (pc := 9) dX1_fail_9 rfl ?_
  refine S_getR (pc := 10) dX1_fail_10 fX1_22 (by assumption) rfl (by assumption) ?_
  refine S_aload_n (pc := 13) dX1_fail_13 rfl ?_
  refine S_getI (pc := 14) dX1_fail_14 fX1_32 (by assumption) rfl ?_
  rw [c2]
  refine S_callV (pc := 17) (ci := 6) (d2 := 1) (mc2 := 0) (ms2 := 0) (As := [_]) dX1_fail_17 kX6_start lkX1_61 (by assumption) rfl rfl rfl (Nat.le_of_ble_eq_true rfl) ⟨by decide, by decide⟩ (by decide) ?_
  refine c_X6_start hTa hTk hk ?_
  show G _ _ _ _ _ _ _ _ _ _ _ _ _
  refine S_putI (pc := 20) dX1_fail_20 fX1_18 (by assumption) rfl ⟨rfl, rfl⟩ ?_
  refine G_vret (pc := 23) dX1_fail_23 rfl (by decide) ?_
  exact hq _ (GaR_43 (by decide)) (GcX_43 (by decide) hX) ⟨by rw [setF_ne (by decide)]; exact c3, setF_at, by omega⟩
set_option maxRecDepth 100000 in
set_option maxHeartbeats 4000000 in
theorem c_X1_failF {g : GC} {sh : SH} {S : SS} {n : Nat} {N f : Int} {B : Int → Int} {x o : Nat} {Q : Option Value → GA → Nat → Prop} (hX : GcX sh S N B x) (hC : GcF S o f) (h0 : Q none (hp g sh S) n) : GCall g mX1_fail 2 0 0 [gr g 43] (hp g sh S) n Q := by
  obtain ⟨hTa, hTk, hB, h43, q0, q1, h44, hTx⟩ := hX
  have h5 := hTa.1
  have hx := hTx.1
  obtain ⟨f3, f4, fb⟩ := hC
  refine GCall.of (by decide) (Nat.le_of_ble_eq_true rfl) (ls := [(0, _)]) rfl ?_
  refine S_aload_n (pc := 0) dX1_fail_0 rfl ?_
  refine S_getI (pc := 1) dX1_fail_1 fX1_18 (by assumption) rfl ?_
  rw [f4]
  refine G_iconst (pc := 4) dX1_fail_4 ?_
  refine G_icmp_ne_t (pc := 5) 23 dX1_fail_5 rfl (by omega) (by omega) ?_
  refine G_vret (pc := 23) dX1_fail_23 rfl (by decide) ?_
  exact h0
set_option maxRecDepth 100000 in
set_option maxHeartbeats 4000000 in
theorem c_X1_needC {g : GC} {sh : SH} {S : SS} {n : Nat} {N : Int} {B : Int → Int} {x k o : Nat} {l : List Int} {Q : Option Value → GA → Nat → Prop} {tt : Int} (hX : GcX sh S N B x) (hC : GcC S x k o l) (hk : k ≤ 1000) (ht : 0 ≤ tt ∧ tt ≤ 1000) (h1 : tkk B k = tt → ∀ S' : SS, GaR x S S' → GcX sh S' N B x → GcC S' x (k + 1) o l → Q none (hp g sh S') n) (h0 : tkk B k ≠ tt → ∀ S' : SS, GaR x S S' → GcX sh S' N B x → GcF S' o (tka N B k) → Q none (hp g sh S') n) : GCall g mX1_need 3 0 0 [gr g 43, .int (iI tt)] (hp g sh S) n Q := by
  have hX' := hX
  have hC' := hC
  obtain ⟨hTa, hTk, hB, h43, q0, q1, h44, hTx⟩ := hX'
  have h5 := hTa.1
  have hx := hTx.1
  obtain ⟨c2, c3, c4, cl, cL⟩ := hC'
  refine GCall.of (by decide) (Nat.le_of_ble_eq_true rfl) (ls := [(0, _), (1, _)]) rfl ?_
  refine S_aload_n (pc := 0) dX1_need_0 rfl ?_
  refine G_iload_n (pc := 1) dX1_need_1 rfl ?_
  refine S_callV (pc := 2) (ci := 1) (d2 := 2) (mc2 := 0) (ms2 := 0) (As := [_]) dX1_need_2 kX1_stands lkX1_54 (by assumption) rfl rfl rfl (Nat.le_of_ble_eq_true rfl) ⟨by decide, by decide⟩ (by decide) ?_
  refine c_X1_standsC hX hC hk ht (fun w2 => ?_) (fun w2 => ?_)
  · show G _ _ _ _ _ _ _ _ _ _ _ _ _
    refine G_if_eq_f (pc := 5) 21 dX1_need_5 rfl (by decide) (by decide) ?_
    refine S_aload_n (pc := 8) dX1_need_8 rfl ?_
    refine G_dup (pc := 9) dX1_need_9 rfl ?_
    refine S_getI (pc := 10) dX1_need_10 fX1_32 (by assumption) rfl ?_
    refine G_iconst (pc := 13) dX1_need_13 ?_
    refine G_iadd (pc := 14) dX1_need_14 ?_
    refine S_putI (pc := 15) dX1_need_15 fX1_32 (by assumption) rfl ⟨rfl, rfl⟩ ?_
    refine G_goto (pc := 18) 25 dX1_need_18 rfl ?_
    refine G_vret (pc := 25) dX1_need_25 rfl (by decide) ?_
    first | exact h0 w2 S1 r1 r2 r3 | exact h1 w2 _ (GaR_43 (by decide)) (GcX_43 (by decide) hX) (GcC_n h44 hC)
  · show G _ _ _ _ _ _ _ _ _ _ _ _ _
    refine G_if_eq_t (pc := 5) 21 dX1_need_5 rfl (by decide) (by decide) ?_
    refine S_aload_n (pc := 21) dX1_need_21 rfl ?_
    refine S_callV (pc := 22) (ci := 1) (d2 := 2) (mc2 := 0) (ms2 := 0) (As := []) dX1_need_22 kX1_fail lkX1_58 (by assumption) rfl rfl rfl (Nat.le_of_ble_eq_true rfl) ⟨by decide, by decide⟩ (by decide) ?_
    refine c_X1_failC hX hC hk (fun S1 r1 r2 r3 => ?_)
    · show G _ _ _ _ _ _ _ _ _ _ _ _ _
      refine G_vret (pc := 25) dX1_need_25 rfl (by decide) ?_
      first | exact h0 w2 S1 r1 r2 r3 | exact h1 w2 _ (GaR_43 (by decide)) (GcX_43 (by decide) hX) (GcC_n h44 hC)
set_option maxRecDepth 100000 in
set_option maxHeartbeats 4000000 in
theorem c_X1_needF {g : GC} {sh : SH} {S : SS} {n : Nat} {N f : Int} {B : Int → Int} {x o : Nat} {Q : Option Value → GA → Nat → Prop} {tt : Int} (hX : GcX sh S N B x) (hC : GcF S o f) (h0 : Q none (hp g sh S) n) : GCall g mX1_need 3 0 0 [gr g 43, .int (iI tt)] (hp g sh S) n Q := by
  have h43 := hX.2.2.2.1
  refine GCall.of (by decide) (Nat.le_of_ble_eq_true rfl) (ls := [(0, _), (1, _)]) rfl ?_
  refine S_aload_n (pc := 0) dX1_need_0 rfl ?_
  refine G_iload_n (pc := 1) dX1_need_1 rfl ?_
  refine S_callV (pc := 2) (ci := 1) (d2 := 2) (mc2 := 0) (ms2 := 0) (As := [_]) dX1_need_2 kX1_stands lkX1_54 (by assumption) rfl rfl rfl (Nat.le_of_ble_eq_true rfl) ⟨by decide, by decide⟩ (by decide) ?_
  refine c_X1_standsF hX hC ?_
  · show G _ _ _ _ _ _ _ _ _ _ _ _ _
    refine G_if_eq_t (pc := 5) 21 dX1_need_5 rfl (by decide) (by decide) ?_
    refine S_aload_n (pc := 21) dX1_need_21 rfl ?_
    refine S_callV (pc := 22) (ci := 1) (d2 := 2) (mc2 := 0) (ms2 := 0) (As := []) dX1_need_22 kX1_fail lkX1_58 (by assumption) rfl rfl rfl (Nat.le_of_ble_eq_true rfl) ⟨by decide, by decide⟩ (by decide) ?_
    refine c_X1_failF hX hC ?_
    show G _ _ _ _ _ _ _ _ _ _ _ _ _
    refine G_vret (pc := 25) dX1_need_25 rfl (by decide) ?_
    exact h0
set_option maxRecDepth 100000 in
set_option maxHeartbeats 4000000 in
theorem c_X1_openedC {g : GC} {sh : SH} {S : SS} {n : Nat} {N : Int} {B : Int → Int} {x k o : Nat} {l : List Int} {Q : Option Value → GA → Nat → Prop} {tt : Int} (hX : GcX sh S N B x) (hC : GcC S x k o l) (ho : o ≤ 5) (hk : k ≤ 1000) (ht : 0 ≤ tt ∧ tt ≤ 1000) (h1 : tkk B k = tt ∧ o < 5 → ∀ S' : SS, GaR x S S' → GcX sh S' N B x → GcC S' x (k + 1) (o + 1) l → Q (some (.int (iI 1))) (hp g sh S') n) (h0 : ¬ (tkk B k = tt ∧ o < 5) → Q (some (.int (iI 0))) (hp g sh S) n) : GCall g mX1_opened 3 0 0 [gr g 43, .int (iI tt)] (hp g sh S) n Q := by
  have hX' := hX
  have hC' := hC
  obtain ⟨hTa, hTk, hB, h43, q0, q1, h44, hTx⟩ := hX'
  have h5 := hTa.1
  have hx := hTx.1
  obtain ⟨c2, c3, c4, cl, cL⟩ := hC'
  refine GCall.of (by decide) (Nat.le_of_ble_eq_true rfl) (ls := [(0, _), (1, _)]) rfl ?_
  refine S_aload_n (pc := 0) dX1_opened_0 rfl ?_
  refine S_getI (pc := 1) dX1_opened_1 fX1_29 (by assumption) rfl ?_
  rw [c3]
  refine G_iconst (pc := 4) dX1_opened_4 ?_
  refine G_icmp_ge (pc := 5) 16 dX1_opened_5 rfl (by omega) (fun c5 => ?_) (fun c5 => ?_)
  · skip
    refine G_iconst (pc := 16) dX1_opened_16 ?_
    refine G_zret (pc := 17) dX1_opened_17 rfl nar_z0 (by decide) ?_
    first | exact h0 (by omega) | exact h1 (by omega) _ (GaR_tr (GaR_43 (by decide)) (GaR_43 (by decide))) (GcX_43 (by decide) (GcX_43 (by decide) hX)) (GcC_o h44 (GcC_n h44 hC) (by first | omega | (rw [setF_ne (by decide)]; omega)))
  · skip
    refine S_aload_n (pc := 8) dX1_opened_8 rfl ?_
    refine G_iload_n (pc := 9) dX1_opened_9 rfl ?_
    refine S_callV (pc := 10) (ci := 1) (d2 := 2) (mc2 := 0) (ms2 := 0) (As := [_]) dX1_opened_10 kX1_stands lkX1_54 (by assumption) rfl rfl rfl (Nat.le_of_ble_eq_true rfl) ⟨by decide, by decide⟩ (by decide) ?_
    refine c_X1_standsC hX hC hk ht (fun w10 => ?_) (fun w10 => ?_)
    · show G _ _ _ _ _ _ _ _ _ _ _ _ _
      refine G_if_ne_t (pc := 13) 18 dX1_opened_13 rfl (by decide) (by decide) ?_
      refine S_aload_n (pc := 18) dX1_opened_18 rfl ?_
      refine G_dup (pc := 19) dX1_opened_19 rfl ?_
      refine S_getI (pc := 20) dX1_opened_20 fX1_32 (by assumption) rfl ?_
      refine G_iconst (pc := 23) dX1_opened_23 ?_
      refine G_iadd (pc := 24) dX1_opened_24 ?_
      refine S_putI (pc := 25) dX1_opened_25 fX1_32 (by assumption) rfl ⟨rfl, rfl⟩ ?_
      refine S_aload_n (pc := 28) dX1_opened_28 rfl ?_
      refine G_dup (pc := 29) dX1_opened_29 rfl ?_
      refine S_getI (pc := 30) dX1_opened_30 fX1_29 (by assumption) rfl ?_
      refine G_iconst (pc := 33) dX1_opened_33 ?_
      refine G_iadd (pc := 34) dX1_opened_34 ?_
      refine S_putI (pc := 35) dX1_opened_35 fX1_29 (by assumption) rfl ⟨rfl, rfl⟩ ?_
      refine G_iconst (pc := 38) dX1_opened_38 ?_
      refine G_zret (pc := 39) dX1_opened_39 rfl nar_z1 (by decide) ?_
      first | exact h0 (by omega) | exact h1 (by omega) _ (GaR_tr (GaR_43 (by decide)) (GaR_43 (by decide))) (GcX_43 (by decide) (GcX_43 (by decide) hX)) (GcC_o h44 (GcC_n h44 hC) (by first | omega | (rw [setF_ne (by decide)]; omega)))
    · show G _ _ _ _ _ _ _ _ _ _ _ _ _
      refine G_if_ne_f (pc := 13) 18 dX1_opened_13 rfl (by decide) (by decide) ?_
      refine G_iconst (pc := 16) dX1_opened_16 ?_
      refine G_zret (pc := 17) dX1_opened_17 rfl nar_z0 (by decide) ?_
      first | exact h0 (by omega) | exact h1 (by omega) _ (GaR_tr (GaR_43 (by decide)) (GaR_43 (by decide))) (GcX_43 (by decide) (GcX_43 (by decide) hX)) (GcC_o h44 (GcC_n h44 hC) (by first | omega | (rw [setF_ne (by decide)]; omega)))
set_option maxRecDepth 100000 in
set_option maxHeartbeats 4000000 in
theorem c_X1_openedF {g : GC} {sh : SH} {S : SS} {n : Nat} {N f : Int} {B : Int → Int} {x o : Nat} {Q : Option Value → GA → Nat → Prop} {tt : Int} (hX : GcX sh S N B x) (hC : GcF S o f) (ho : o ≤ 5) (h0 : Q (some (.int (iI 0))) (hp g sh S) n) : GCall g mX1_opened 3 0 0 [gr g 43, .int (iI tt)] (hp g sh S) n Q := by
  have h43 := hX.2.2.2.1
  have f3 := hC.1
  refine GCall.of (by decide) (Nat.le_of_ble_eq_true rfl) (ls := [(0, _), (1, _)]) rfl ?_
  refine S_aload_n (pc := 0) dX1_opened_0 rfl ?_
  refine S_getI (pc := 1) dX1_opened_1 fX1_29 (by assumption) rfl ?_
  rw [f3]
  refine G_iconst (pc := 4) dX1_opened_4 ?_
  refine G_icmp_ge (pc := 5) 16 dX1_opened_5 rfl (by omega) (fun c5 => ?_) (fun c5 => ?_)
  · skip
    refine G_iconst (pc := 16) dX1_opened_16 ?_
    refine G_zret (pc := 17) dX1_opened_17 rfl nar_z0 (by decide) ?_
    exact h0
  · skip
    refine S_aload_n (pc := 8) dX1_opened_8 rfl ?_
    refine G_iload_n (pc := 9) dX1_opened_9 rfl ?_
    refine S_callV (pc := 10) (ci := 1) (d2 := 2) (mc2 := 0) (ms2 := 0) (As := [_]) dX1_opened_10 kX1_stands lkX1_54 (by assumption) rfl rfl rfl (Nat.le_of_ble_eq_true rfl) ⟨by decide, by decide⟩ (by decide) ?_
    refine c_X1_standsF hX hC ?_
    · show G _ _ _ _ _ _ _ _ _ _ _ _ _
      refine G_if_ne_f (pc := 13) 18 dX1_opened_13 rfl (by decide) (by decide) ?_
      refine G_iconst (pc := 16) dX1_opened_16 ?_
      refine G_zret (pc := 17) dX1_opened_17 rfl nar_z0 (by decide) ?_
      exact h0
set_option maxRecDepth 100000 in
set_option maxHeartbeats 4000000 in
theorem c_X1_numberOrNameC {g : GC} {sh : SH} {S : SS} {n : Nat} {N : Int} {B : Int → Int} {x k o : Nat} {l : List Int} {Q : Option Value → GA → Nat → Prop} (hX : GcX sh S N B x) (hC : GcC S x k o l) (hk : k ≤ 1000) (hl : l.length ≤ k) (h1 : 1000 ≤ tkk B k → ∀ S' : SS, GaR x S S' → GcX sh S' N B x → GcC S' x (k + 1) o (l ++ [tkk B k - 1000]) → Q none (hp g sh S') n) (h2 : ¬ 1000 ≤ tkk B k → 270 ≤ tkk B k ∧ tkk B k ≤ 275 → ∀ S' : SS, GaR x S S' → GcX sh S' N B x → GcC S' x (k + 1) o (l ++ [269 - tkk B k]) → Q none (hp g sh S') n) (h0 : ¬ 1000 ≤ tkk B k → ¬ (270 ≤ tkk B k ∧ tkk B k ≤ 275) → ∀ S' : SS, GaR x S S' → GcX sh S' N B x → GcF S' o (tka N B k) → Q none (hp g sh S') n) : GCall g mX1_numberOrName 3 0 0 [gr g 43] (hp g sh S) n Q := by
  have hX' := hX
  have hC' := hC
  obtain ⟨hTa, hTk, hB, h43, q0, q1, h44, hTx⟩ := hX'
  have h5 := hTa.1
  have hx := hTx.1
  obtain ⟨c2, c3, c4, cl, cL⟩ := hC'
  have hr := tkk_rng hB k
  refine GCall.of (by decide) (Nat.le_of_ble_eq_true rfl) (ls := [(0, _)]) rfl ?_
  by_cases c1 : 1000 ≤ tkk B k
  · have hkN := tk_in hB (k := k) (by omega)
    refine S_aload_n (pc := 0) dX1_numberOrName_0 rfl ?_
    refine S_getI (pc := 1) dX1_numberOrName_1 fX1_18 (by assumption) rfl ?_
    rw [c4]
    refine G_iconst (pc := 4) dX1_numberOrName_4 ?_
    refine G_icmp_ne_f (pc := 5) 22 dX1_numberOrName_5 rfl (by omega) (by omega) ?_
    refine S_aload_n (pc := 8) dX1_numberOrName_8 rfl ?_
    refine S_getR (pc := 9) dX1_numberOrName_9 fX1_22 (by assumption) rfl (by assumption) ?_
    refine S_aload_n (pc := 12) dX1_numberOrName_12 rfl ?_
    refine S_getI (pc := 13) dX1_numberOrName_13 fX1_32 (by assumption) rfl ?_
    rw [c2]
    refine S_callV (pc := 16) (ci := 6) (d2 := 1) (mc2 := 0) (ms2 := 0) (As := [_]) dX1_numberOrName_16 kX6_token lkX1_50 (by assumption) rfl rfl rfl (Nat.le_of_ble_eq_true rfl) ⟨by decide, by decide⟩ (by decide) ?_
    refine c_X6_token hTa hTk hk ?_
    show G _ _ _ _ _ _ _ _ _ _ _ _ _
    refine G_goto (pc := 19) 25 dX1_numberOrName_19 rfl ?_
    refine G_istore_n (pc := 25) (ls' := [(1, _), (0, _)]) dX1_numberOrName_25 (by decide) rfl ?_
    refine G_iload_n (pc := 26) dX1_numberOrName_26 rfl ?_
    refine G_sipush (pc := 27) dX1_numberOrName_27 rfl ?_
    refine G_icmp_lt_f (pc := 30) 48 dX1_numberOrName_30 rfl (by omega) (by omega) ?_
    refine S_aload_n (pc := 33) dX1_numberOrName_33 rfl ?_
    refine S_getR (pc := 34) dX1_numberOrName_34 fX1_12 (by assumption) rfl (by assumption) ?_
    refine G_iload_n (pc := 37) dX1_numberOrName_37 rfl ?_
    refine G_sipush (pc := 38) dX1_numberOrName_38 rfl ?_
    refine G_isub (pc := 41) dX1_numberOrName_41 ?_
    refine S_callV (pc := 42) (ci := 7) (d2 := 1) (mc2 := 0) (ms2 := 0) (As := [_]) dX1_numberOrName_42 kX7_add lkX1_70 (by assumption) rfl rfl rfl (Nat.le_of_ble_eq_true rfl) ⟨by decide, by decide⟩ (by decide) ?_
    refine c_X7_addC hX hC (by omega) (by unfold IsI; omega) (fun S1 r1 r2 r3 => ?_)
    · show G _ _ _ _ _ _ _ _ _ _ _ _ _
      refine G_goto (pc := 45) 81 dX1_numberOrName_45 rfl ?_
      refine S_aload_n (pc := 81) dX1_numberOrName_81 rfl ?_
      refine G_dup (pc := 82) dX1_numberOrName_82 rfl ?_
      refine S_getI (pc := 83) dX1_numberOrName_83 fX1_32 (by assumption) rfl ?_
      refine G_iconst (pc := 86) dX1_numberOrName_86 ?_
      refine G_iadd (pc := 87) dX1_numberOrName_87 ?_
      refine S_putI (pc := 88) dX1_numberOrName_88 fX1_32 (by assumption) rfl ⟨rfl, rfl⟩ ?_
      refine G_vret (pc := 91) dX1_numberOrName_91 rfl (by decide) ?_
      exact h1 c1 _ (GaR_tr r1 (GaR_43 (by decide))) (GcX_43 (by decide) r2) (GcC_n h44 r3)
  · by_cases c5 : 270 ≤ tkk B k ∧ tkk B k ≤ 275
    · have hkN := tk_in hB (k := k) (by omega)
      have e9 : -1 - (tkk B k - 270) = 269 - tkk B k := by omega
      refine S_aload_n (pc := 0) dX1_numberOrName_0 rfl ?_
      refine S_getI (pc := 1) dX1_numberOrName_1 fX1_18 (by assumption) rfl ?_
      rw [c4]
      refine G_iconst (pc := 4) dX1_numberOrName_4 ?_
      refine G_icmp_ne_f (pc := 5) 22 dX1_numberOrName_5 rfl (by omega) (by omega) ?_
      refine S_aload_n (pc := 8) dX1_numberOrName_8 rfl ?_
      refine S_getR (pc := 9) dX1_numberOrName_9 fX1_22 (by assumption) rfl (by assumption) ?_
      refine S_aload_n (pc := 12) dX1_numberOrName_12 rfl ?_
      refine S_getI (pc := 13) dX1_numberOrName_13 fX1_32 (by assumption) rfl ?_
      rw [c2]
      refine S_callV (pc := 16) (ci := 6) (d2 := 1) (mc2 := 0) (ms2 := 0) (As := [_]) dX1_numberOrName_16 kX6_token lkX1_50 (by assumption) rfl rfl rfl (Nat.le_of_ble_eq_true rfl) ⟨by decide, by decide⟩ (by decide) ?_
      refine c_X6_token hTa hTk hk ?_
      show G _ _ _ _ _ _ _ _ _ _ _ _ _
      refine G_goto (pc := 19) 25 dX1_numberOrName_19 rfl ?_
      refine G_istore_n (pc := 25) (ls' := [(1, _), (0, _)]) dX1_numberOrName_25 (by decide) rfl ?_
      refine G_iload_n (pc := 26) dX1_numberOrName_26 rfl ?_
      refine G_sipush (pc := 27) dX1_numberOrName_27 rfl ?_
      refine G_icmp_lt_t (pc := 30) 48 dX1_numberOrName_30 rfl (by omega) (by omega) ?_
      refine G_iload_n (pc := 48) dX1_numberOrName_48 rfl ?_
      refine G_sipush (pc := 49) dX1_numberOrName_49 rfl ?_
      refine G_isub (pc := 52) dX1_numberOrName_52 ?_
      refine G_bipush (pc := 53) dX1_numberOrName_53 rfl ?_
      refine G_callSN (pc := 55) (d2 := 1) (mc2 := 0) (ms2 := 0) (As := [_, _]) dX1_numberOrName_55 kX9_isWithin lkX1_91 rfl rfl (Nat.le_of_ble_eq_true rfl) ⟨by decide, by decide⟩ (by decide) ?_
      refine c_X9_isWithin (by omega) (fun _ => ?_) (fun z => absurd (by omega) z)
      · show G _ _ _ _ _ _ _ _ _ _ _ _ _
        refine G_if_eq_f (pc := 58) 76 dX1_numberOrName_58 rfl (by decide) (by decide) ?_
        refine S_aload_n (pc := 61) dX1_numberOrName_61 rfl ?_
        refine S_getR (pc := 62) dX1_numberOrName_62 fX1_12 (by assumption) rfl (by assumption) ?_
        refine G_iload_n (pc := 65) dX1_numberOrName_65 rfl ?_
        refine G_sipush (pc := 66) dX1_numberOrName_66 rfl ?_
        refine G_isub (pc := 69) dX1_numberOrName_69 ?_
        refine S_callV (pc := 70) (ci := 7) (d2 := 2) (mc2 := 0) (ms2 := 0) (As := [_]) dX1_numberOrName_70 kX7_addName lkX1_95 (by assumption) rfl rfl rfl (Nat.le_of_ble_eq_true rfl) ⟨by decide, by decide⟩ (by decide) ?_
        refine c_X7_addNameC hX hC (by omega) (by unfold IsI; omega) (fun S1 r1 r2 r3 => ?_)
        · show G _ _ _ _ _ _ _ _ _ _ _ _ _
          refine G_goto (pc := 73) 81 dX1_numberOrName_73 rfl ?_
          refine S_aload_n (pc := 81) dX1_numberOrName_81 rfl ?_
          refine G_dup (pc := 82) dX1_numberOrName_82 rfl ?_
          refine S_getI (pc := 83) dX1_numberOrName_83 fX1_32 (by assumption) rfl ?_
          refine G_iconst (pc := 86) dX1_numberOrName_86 ?_
          refine G_iadd (pc := 87) dX1_numberOrName_87 ?_
          refine S_putI (pc := 88) dX1_numberOrName_88 fX1_32 (by assumption) rfl ⟨rfl, rfl⟩ ?_
          refine G_vret (pc := 91) dX1_numberOrName_91 rfl (by decide) ?_
          exact h2 c1 c5 _ (GaR_tr r1 (GaR_43 (by decide))) (GcX_43 (by decide) r2) (GcC_n h44 (GcC_cast r3 (by rw [e9])))
    · skip
      refine S_aload_n (pc := 0) dX1_numberOrName_0 rfl ?_
      refine S_getI (pc := 1) dX1_numberOrName_1 fX1_18 (by assumption) rfl ?_
      rw [c4]
      refine G_iconst (pc := 4) dX1_numberOrName_4 ?_
      refine G_icmp_ne_f (pc := 5) 22 dX1_numberOrName_5 rfl (by omega) (by omega) ?_
      refine S_aload_n (pc := 8) dX1_numberOrName_8 rfl ?_
      refine S_getR (pc := 9) dX1_numberOrName_9 fX1_22 (by assumption) rfl (by assumption) ?_
      refine S_aload_n (pc := 12) dX1_numberOrName_12 rfl ?_
      refine S_getI (pc := 13) dX1_numberOrName_13 fX1_32 (by assumption) rfl ?_
      rw [c2]
      refine S_callV (pc := 16) (ci := 6) (d2 := 1) (mc2 := 0) (ms2 := 0) (As := [_]) dX1_numberOrName_16 kX6_token lkX1_50 (by assumption) rfl rfl rfl (Nat.le_of_ble_eq_true rfl) ⟨by decide, by decide⟩ (by decide) ?_
      refine c_X6_token hTa hTk hk ?_
      show G _ _ _ _ _ _ _ _ _ _ _ _ _
      refine G_goto (pc := 19) 25 dX1_numberOrName_19 rfl ?_
      refine G_istore_n (pc := 25) (ls' := [(1, _), (0, _)]) dX1_numberOrName_25 (by decide) rfl ?_
      refine G_iload_n (pc := 26) dX1_numberOrName_26 rfl ?_
      refine G_sipush (pc := 27) dX1_numberOrName_27 rfl ?_
      refine G_icmp_lt_t (pc := 30) 48 dX1_numberOrName_30 rfl (by omega) (by omega) ?_
      refine G_iload_n (pc := 48) dX1_numberOrName_48 rfl ?_
      refine G_sipush (pc := 49) dX1_numberOrName_49 rfl ?_
      refine G_isub (pc := 52) dX1_numberOrName_52 ?_
      refine G_bipush (pc := 53) dX1_numberOrName_53 rfl ?_
      refine G_callSN (pc := 55) (d2 := 1) (mc2 := 0) (ms2 := 0) (As := [_, _]) dX1_numberOrName_55 kX9_isWithin lkX1_91 rfl rfl (Nat.le_of_ble_eq_true rfl) ⟨by decide, by decide⟩ (by decide) ?_
      refine c_X9_isWithin (by omega) (fun z => absurd z (by omega)) (fun _ => ?_)
      · show G _ _ _ _ _ _ _ _ _ _ _ _ _
        refine G_if_eq_t (pc := 58) 76 dX1_numberOrName_58 rfl (by decide) (by decide) ?_
        refine S_aload_n (pc := 76) dX1_numberOrName_76 rfl ?_
        refine S_callV (pc := 77) (ci := 1) (d2 := 2) (mc2 := 0) (ms2 := 0) (As := []) dX1_numberOrName_77 kX1_fail lkX1_58 (by assumption) rfl rfl rfl (Nat.le_of_ble_eq_true rfl) ⟨by decide, by decide⟩ (by decide) ?_
        refine c_X1_failC hX hC hk (fun S1 r1 r2 r3 => ?_)
        · show G _ _ _ _ _ _ _ _ _ _ _ _ _
          refine G_vret (pc := 80) dX1_numberOrName_80 rfl (by decide) ?_
          exact h0 c1 c5 S1 r1 r2 r3
set_option maxRecDepth 100000 in
set_option maxHeartbeats 4000000 in
theorem c_X1_numberOrNameF {g : GC} {sh : SH} {S : SS} {n : Nat} {N f : Int} {B : Int → Int} {x o : Nat} {Q : Option Value → GA → Nat → Prop} (hX : GcX sh S N B x) (hC : GcF S o f) (h0 : Q none (hp g sh S) n) : GCall g mX1_numberOrName 3 0 0 [gr g 43] (hp g sh S) n Q := by
  have h43 := hX.2.2.2.1
  have f4 := hC.2.1
  have fb := hC.2.2
  refine GCall.of (by decide) (Nat.le_of_ble_eq_true rfl) (ls := [(0, _)]) rfl ?_
  refine S_aload_n (pc := 0) dX1_numberOrName_0 rfl ?_
  refine S_getI (pc := 1) dX1_numberOrName_1 fX1_18 (by assumption) rfl ?_
  rw [f4]
  refine G_iconst (pc := 4) dX1_numberOrName_4 ?_
  refine G_icmp_ne_t (pc := 5) 22 dX1_numberOrName_5 rfl (by omega) (by omega) ?_
  refine G_sipush (pc := 22) dX1_numberOrName_22 rfl ?_
  refine G_istore_n (pc := 25) (ls' := [(1, _), (0, _)]) dX1_numberOrName_25 (by decide) rfl ?_
  refine G_iload_n (pc := 26) dX1_numberOrName_26 rfl ?_
  refine G_sipush (pc := 27) dX1_numberOrName_27 rfl ?_
  refine G_icmp_lt_t (pc := 30) 48 dX1_numberOrName_30 rfl (by omega) (by omega) ?_
  refine G_iload_n (pc := 48) dX1_numberOrName_48 rfl ?_
  refine G_sipush (pc := 49) dX1_numberOrName_49 rfl ?_
  refine G_isub (pc := 52) dX1_numberOrName_52 ?_
  refine G_bipush (pc := 53) dX1_numberOrName_53 rfl ?_
  refine G_callSN (pc := 55) (d2 := 1) (mc2 := 0) (ms2 := 0) (As := [_, _]) dX1_numberOrName_55 kX9_isWithin lkX1_91 rfl rfl (Nat.le_of_ble_eq_true rfl) ⟨by decide, by decide⟩ (by decide) ?_
  refine c_X9_isWithin (by omega) (fun z => absurd z (by omega)) (fun _ => ?_)
  · show G _ _ _ _ _ _ _ _ _ _ _ _ _
    refine G_if_eq_t (pc := 58) 76 dX1_numberOrName_58 rfl (by decide) (by decide) ?_
    refine S_aload_n (pc := 76) dX1_numberOrName_76 rfl ?_
    refine S_callV (pc := 77) (ci := 1) (d2 := 2) (mc2 := 0) (ms2 := 0) (As := []) dX1_numberOrName_77 kX1_fail lkX1_58 (by assumption) rfl rfl rfl (Nat.le_of_ble_eq_true rfl) ⟨by decide, by decide⟩ (by decide) ?_
    refine c_X1_failF hX hC ?_
    show G _ _ _ _ _ _ _ _ _ _ _ _ _
    refine G_vret (pc := 80) dX1_numberOrName_80 rfl (by decide) ?_
    exact h0
set_option maxRecDepth 100000 in
set_option maxHeartbeats 4000000 in
theorem c_X1_oneF {g : GC} {sh : SH} {S : SS} {n : Nat} {N f : Int} {B : Int → Int} {x o : Nat} {Q : Option Value → GA → Nat → Prop} (hX : GcX sh S N B x) (hC : GcF S o f) (ho : o ≤ 5) (h0 : Q none (hp g sh S) n) : GCall g mX1_one 4 0 0 [gr g 43] (hp g sh S) n Q := by
  have h43 := hX.2.2.2.1
  refine GCall.of (by decide) (Nat.le_of_ble_eq_true rfl) (ls := [(0, _)]) rfl ?_
  refine S_aload_n (pc := 0) dX1_one_0 rfl ?_
  refine G_bipush (pc := 1) dX1_one_1 rfl ?_
  refine S_callV (pc := 3) (ci := 1) (d2 := 3) (mc2 := 0) (ms2 := 0) (As := [_]) dX1_one_3 kX1_opened lkX1_76 (by assumption) rfl rfl rfl (Nat.le_of_ble_eq_true rfl) ⟨by decide, by decide⟩ (by decide) ?_
  refine c_X1_openedF hX hC ho ?_
  · show G _ _ _ _ _ _ _ _ _ _ _ _ _
    refine G_if_eq_t (pc := 6) 35 dX1_one_6 rfl (by decide) (by decide) ?_
    refine S_aload_n (pc := 35) dX1_one_35 rfl ?_
    refine G_bipush (pc := 36) dX1_one_36 rfl ?_
    refine S_callV (pc := 38) (ci := 1) (d2 := 3) (mc2 := 0) (ms2 := 0) (As := [_]) dX1_one_38 kX1_opened lkX1_76 (by assumption) rfl rfl rfl (Nat.le_of_ble_eq_true rfl) ⟨by decide, by decide⟩ (by decide) ?_
    refine c_X1_openedF hX hC ho ?_
    · show G _ _ _ _ _ _ _ _ _ _ _ _ _
      refine G_if_eq_t (pc := 41) 67 dX1_one_41 rfl (by decide) (by decide) ?_
      refine S_aload_n (pc := 67) dX1_one_67 rfl ?_
      refine S_callV (pc := 68) (ci := 1) (d2 := 3) (mc2 := 0) (ms2 := 0) (As := []) dX1_one_68 kX1_numberOrName lkX1_88 (by assumption) rfl rfl rfl (Nat.le_of_ble_eq_true rfl) ⟨by decide, by decide⟩ (by decide) ?_
      refine c_X1_numberOrNameF hX hC ?_
      show G _ _ _ _ _ _ _ _ _ _ _ _ _
      refine G_vret (pc := 71) dX1_one_71 rfl (by decide) ?_
      exact h0
set_option maxRecDepth 100000 in
set_option maxHeartbeats 4000000 in
theorem c_X1_termF {g : GC} {sh : SH} {S : SS} {n : Nat} {N f : Int} {B : Int → Int} {x o : Nat} {Q : Option Value → GA → Nat → Prop} (hX : GcX sh S N B x) (hC : GcF S o f) (ho : o ≤ 5) (h0 : Q none (hp g sh S) n) : GCall g mX1_term 5 0 0 [gr g 43] (hp g sh S) n Q := by
  have h43 := hX.2.2.2.1
  refine GCall.of (by decide) (Nat.le_of_ble_eq_true rfl) (ls := [(0, _)]) rfl ?_
  refine S_aload_n (pc := 0) dX1_term_0 rfl ?_
  refine S_callV (pc := 1) (ci := 1) (d2 := 4) (mc2 := 0) (ms2 := 0) (As := []) dX1_term_1 kX1_one lkX1_85 (by assumption) rfl rfl rfl (Nat.le_of_ble_eq_true rfl) ⟨by decide, by decide⟩ (by decide) ?_
  refine c_X1_oneF hX hC ho ?_
  show G _ _ _ _ _ _ _ _ _ _ _ _ _
  refine G_iconst (pc := 4) dX1_term_4 ?_
  refine G_istore_n (pc := 5) (ls' := [(1, _), (0, _)]) dX1_term_5 (by decide) rfl ?_
  refine G_iload_n (pc := 6) dX1_term_6 rfl ?_
  refine G_sipush (pc := 7) dX1_term_7 rfl ?_
  refine G_icmp_ge_f (pc := 10) 41 dX1_term_10 rfl (by omega) (by omega) ?_
  refine S_aload_n (pc := 13) dX1_term_13 rfl ?_
  refine G_bipush (pc := 14) dX1_term_14 rfl ?_
  refine S_callV (pc := 16) (ci := 1) (d2 := 3) (mc2 := 0) (ms2 := 0) (As := [_]) dX1_term_16 kX1_took lkX1_67 (by assumption) rfl rfl rfl (Nat.le_of_ble_eq_true rfl) ⟨by decide, by decide⟩ (by decide) ?_
  refine c_X1_tookF hX hC ?_
  · show G _ _ _ _ _ _ _ _ _ _ _ _ _
    refine G_if_eq_t (pc := 19) 41 dX1_term_19 rfl (by decide) (by decide) ?_
    refine G_vret (pc := 41) dX1_term_41 rfl (by decide) ?_
    exact h0
set_option maxRecDepth 100000 in
set_option maxHeartbeats 4000000 in
theorem c_X1_summedF {g : GC} {sh : SH} {S : SS} {n : Nat} {N f : Int} {B : Int → Int} {x o : Nat} {Q : Option Value → GA → Nat → Prop} (hX : GcX sh S N B x) (hC : GcF S o f) (ho : o ≤ 5) (h0 : Q none (hp g sh S) n) : GCall g mX1_summed 6 0 0 [gr g 43] (hp g sh S) n Q := by
  have h43 := hX.2.2.2.1
  refine GCall.of (by decide) (Nat.le_of_ble_eq_true rfl) (ls := [(0, _)]) rfl ?_
  refine S_aload_n (pc := 0) dX1_summed_0 rfl ?_
  refine S_callV (pc := 1) (ci := 1) (d2 := 5) (mc2 := 0) (ms2 := 0) (As := []) dX1_summed_1 kX1_term lkX1_82 (by assumption) rfl rfl rfl (Nat.le_of_ble_eq_true rfl) ⟨by decide, by decide⟩ (by decide) ?_
  refine c_X1_termF hX hC ho ?_
  show G _ _ _ _ _ _ _ _ _ _ _ _ _
  refine G_iconst (pc := 4) dX1_summed_4 ?_
  refine G_istore_n (pc := 5) (ls' := [(1, _), (0, _)]) dX1_summed_5 (by decide) rfl ?_
  refine G_iload_n (pc := 6) dX1_summed_6 rfl ?_
  refine G_sipush (pc := 7) dX1_summed_7 rfl ?_
  refine G_icmp_ge_f (pc := 10) 76 dX1_summed_10 rfl (by omega) (by omega) ?_
  refine S_aload_n (pc := 13) dX1_summed_13 rfl ?_
  refine G_bipush (pc := 14) dX1_summed_14 rfl ?_
  refine S_callV (pc := 16) (ci := 1) (d2 := 2) (mc2 := 0) (ms2 := 0) (As := [_]) dX1_summed_16 kX1_stands lkX1_54 (by assumption) rfl rfl rfl (Nat.le_of_ble_eq_true rfl) ⟨by decide, by decide⟩ (by decide) ?_
  refine c_X1_standsF hX hC ?_
  · show G _ _ _ _ _ _ _ _ _ _ _ _ _
    refine G_if_ne_f (pc := 19) 31 dX1_summed_19 rfl (by decide) (by decide) ?_
    refine S_aload_n (pc := 22) dX1_summed_22 rfl ?_
    refine G_bipush (pc := 23) dX1_summed_23 rfl ?_
    refine S_callV (pc := 25) (ci := 1) (d2 := 2) (mc2 := 0) (ms2 := 0) (As := [_]) dX1_summed_25 kX1_stands lkX1_54 (by assumption) rfl rfl rfl (Nat.le_of_ble_eq_true rfl) ⟨by decide, by decide⟩ (by decide) ?_
    refine c_X1_standsF hX hC ?_
    · show G _ _ _ _ _ _ _ _ _ _ _ _ _
      refine G_if_eq_t (pc := 28) 76 dX1_summed_28 rfl (by decide) (by decide) ?_
      refine G_vret (pc := 76) dX1_summed_76 rfl (by decide) ?_
      exact h0
set_option maxRecDepth 100000 in
set_option maxHeartbeats 4000000 in
theorem c_X1_negatedF {g : GC} {sh : SH} {S : SS} {n : Nat} {N f : Int} {B : Int → Int} {x o : Nat} {Q : Option Value → GA → Nat → Prop} (hX : GcX sh S N B x) (hC : GcF S o f) (ho : o ≤ 5) (h0 : Q none (hp g sh S) n) : GCall g mX1_negated 7 0 0 [gr g 43] (hp g sh S) n Q := by
  have h43 := hX.2.2.2.1
  refine GCall.of (by decide) (Nat.le_of_ble_eq_true rfl) (ls := [(0, _)]) rfl ?_
  refine S_aload_n (pc := 0) dX1_negated_0 rfl ?_
  refine G_sipush (pc := 1) dX1_negated_1 rfl ?_
  refine S_callV (pc := 4) (ci := 1) (d2 := 3) (mc2 := 0) (ms2 := 0) (As := [_]) dX1_negated_4 kX1_opened lkX1_76 (by assumption) rfl rfl rfl (Nat.le_of_ble_eq_true rfl) ⟨by decide, by decide⟩ (by decide) ?_
  refine c_X1_openedF hX hC ho ?_
  · show G _ _ _ _ _ _ _ _ _ _ _ _ _
    refine G_if_eq_t (pc := 7) 34 dX1_negated_7 rfl (by decide) (by decide) ?_
    refine S_aload_n (pc := 34) dX1_negated_34 rfl ?_
    refine S_callV (pc := 35) (ci := 1) (d2 := 6) (mc2 := 0) (ms2 := 0) (As := []) dX1_negated_35 kX1_summed lkX1_79 (by assumption) rfl rfl rfl (Nat.le_of_ble_eq_true rfl) ⟨by decide, by decide⟩ (by decide) ?_
    refine c_X1_summedF hX hC ho ?_
    show G _ _ _ _ _ _ _ _ _ _ _ _ _
    refine S_aload_n (pc := 38) dX1_negated_38 rfl ?_
    refine G_bipush (pc := 39) dX1_negated_39 rfl ?_
    refine S_callV (pc := 41) (ci := 1) (d2 := 3) (mc2 := 0) (ms2 := 0) (As := [_]) dX1_negated_41 kX1_took lkX1_67 (by assumption) rfl rfl rfl (Nat.le_of_ble_eq_true rfl) ⟨by decide, by decide⟩ (by decide) ?_
    refine c_X1_tookF hX hC ?_
    · show G _ _ _ _ _ _ _ _ _ _ _ _ _
      refine G_if_eq_t (pc := 44) 63 dX1_negated_44 rfl (by decide) (by decide) ?_
      refine S_aload_n (pc := 63) dX1_negated_63 rfl ?_
      refine G_bipush (pc := 64) dX1_negated_64 rfl ?_
      refine S_callV (pc := 66) (ci := 1) (d2 := 3) (mc2 := 0) (ms2 := 0) (As := [_]) dX1_negated_66 kX1_took lkX1_67 (by assumption) rfl rfl rfl (Nat.le_of_ble_eq_true rfl) ⟨by decide, by decide⟩ (by decide) ?_
      refine c_X1_tookF hX hC ?_
      · show G _ _ _ _ _ _ _ _ _ _ _ _ _
        refine G_if_eq_t (pc := 69) 85 dX1_negated_69 rfl (by decide) (by decide) ?_
        refine G_vret (pc := 85) dX1_negated_85 rfl (by decide) ?_
        exact h0
set_option maxRecDepth 100000 in
set_option maxHeartbeats 4000000 in
theorem c_X1_bothF {g : GC} {sh : SH} {S : SS} {n : Nat} {N f : Int} {B : Int → Int} {x o : Nat} {Q : Option Value → GA → Nat → Prop} (hX : GcX sh S N B x) (hC : GcF S o f) (ho : o ≤ 5) (h0 : Q none (hp g sh S) n) : GCall g mX1_both 8 0 0 [gr g 43] (hp g sh S) n Q := by
  have h43 := hX.2.2.2.1
  refine GCall.of (by decide) (Nat.le_of_ble_eq_true rfl) (ls := [(0, _)]) rfl ?_
  refine S_aload_n (pc := 0) dX1_both_0 rfl ?_
  refine S_callV (pc := 1) (ci := 1) (d2 := 7) (mc2 := 0) (ms2 := 0) (As := []) dX1_both_1 kX1_negated lkX1_73 (by assumption) rfl rfl rfl (Nat.le_of_ble_eq_true rfl) ⟨by decide, by decide⟩ (by decide) ?_
  refine c_X1_negatedF hX hC ho ?_
  show G _ _ _ _ _ _ _ _ _ _ _ _ _
  refine G_iconst (pc := 4) dX1_both_4 ?_
  refine G_istore_n (pc := 5) (ls' := [(1, _), (0, _)]) dX1_both_5 (by decide) rfl ?_
  refine G_iload_n (pc := 6) dX1_both_6 rfl ?_
  refine G_sipush (pc := 7) dX1_both_7 rfl ?_
  refine G_icmp_ge_f (pc := 10) 42 dX1_both_10 rfl (by omega) (by omega) ?_
  refine S_aload_n (pc := 13) dX1_both_13 rfl ?_
  refine G_sipush (pc := 14) dX1_both_14 rfl ?_
  refine S_callV (pc := 17) (ci := 1) (d2 := 3) (mc2 := 0) (ms2 := 0) (As := [_]) dX1_both_17 kX1_took lkX1_67 (by assumption) rfl rfl rfl (Nat.le_of_ble_eq_true rfl) ⟨by decide, by decide⟩ (by decide) ?_
  refine c_X1_tookF hX hC ?_
  · show G _ _ _ _ _ _ _ _ _ _ _ _ _
    refine G_if_eq_t (pc := 20) 42 dX1_both_20 rfl (by decide) (by decide) ?_
    refine G_vret (pc := 42) dX1_both_42 rfl (by decide) ?_
    exact h0
set_option maxRecDepth 100000 in
set_option maxHeartbeats 4000000 in
theorem c_X1_eitherF {g : GC} {sh : SH} {S : SS} {n : Nat} {N f : Int} {B : Int → Int} {x o : Nat} {Q : Option Value → GA → Nat → Prop} (hX : GcX sh S N B x) (hC : GcF S o f) (ho : o ≤ 5) (h0 : Q none (hp g sh S) n) : GCall g mX1_either 9 0 0 [gr g 43] (hp g sh S) n Q := by
  have h43 := hX.2.2.2.1
  refine GCall.of (by decide) (Nat.le_of_ble_eq_true rfl) (ls := [(0, _)]) rfl ?_
  refine S_aload_n (pc := 0) dX1_either_0 rfl ?_
  refine S_callV (pc := 1) (ci := 1) (d2 := 8) (mc2 := 0) (ms2 := 0) (As := []) dX1_either_1 kX1_both lkX1_64 (by assumption) rfl rfl rfl (Nat.le_of_ble_eq_true rfl) ⟨by decide, by decide⟩ (by decide) ?_
  refine c_X1_bothF hX hC ho ?_
  show G _ _ _ _ _ _ _ _ _ _ _ _ _
  refine G_iconst (pc := 4) dX1_either_4 ?_
  refine G_istore_n (pc := 5) (ls' := [(1, _), (0, _)]) dX1_either_5 (by decide) rfl ?_
  refine G_iload_n (pc := 6) dX1_either_6 rfl ?_
  refine G_sipush (pc := 7) dX1_either_7 rfl ?_
  refine G_icmp_ge_f (pc := 10) 42 dX1_either_10 rfl (by omega) (by omega) ?_
  refine S_aload_n (pc := 13) dX1_either_13 rfl ?_
  refine G_sipush (pc := 14) dX1_either_14 rfl ?_
  refine S_callV (pc := 17) (ci := 1) (d2 := 3) (mc2 := 0) (ms2 := 0) (As := [_]) dX1_either_17 kX1_took lkX1_67 (by assumption) rfl rfl rfl (Nat.le_of_ble_eq_true rfl) ⟨by decide, by decide⟩ (by decide) ?_
  refine c_X1_tookF hX hC ?_
  · show G _ _ _ _ _ _ _ _ _ _ _ _ _
    refine G_if_eq_t (pc := 20) 42 dX1_either_20 rfl (by decide) (by decide) ?_
    refine G_vret (pc := 42) dX1_either_42 rfl (by decide) ?_
    exact h0
